section
variable {fr ap ba gr br la he td : Int32} {now : Nat → Int32}
theorem mo_ba (hm : MO fr ap ba gr now) (h : 0 ≤ fr.toInt ∧ fr.toInt ≤ 16) : aUf 2 fr now = ba := bt_eq (fun k => (mo_v hm h k).2.1)
end
