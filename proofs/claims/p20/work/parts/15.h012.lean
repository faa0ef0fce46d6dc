section
variable {fr ap ba gr br la he td : Int32} {now : Nat → Int32}
theorem mo_ap (hm : MO fr ap ba gr now) (h : 0 ≤ fr.toInt ∧ fr.toInt ≤ 16) : aUf 1 fr now = ap := bt_eq (fun k => (mo_v hm h k).1)
end
