theorem bt_eq {x y : Int32} (h : ∀ k : Nat, bt x k = bt y k) : x = y := bt_ext (fun k _ => h k)
