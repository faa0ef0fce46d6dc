section
variable {fr ap ba gr br la he td : Int32} {now : Nat → Int32}
theorem mo_hg (hm : MO fr ap ba gr now) (h : 0 ≤ fr.toInt ∧ fr.toInt ≤ 16) : aUf 0 fr now = aVS fr ap ba gr := bt_eq (fun k => by rw [(mo_v hm h k).2.2.2, hg_bt h])
end
