section
variable {l t a p0 : Int32} {sg tx ru ma : Nat → Int32}
theorem ra_rel (hs : ∀ k : Nat, sg k = tx k &&& 255) (hl : l.toInt ≤ 80) (ha : 0 ≤ a.toInt ∧ a.toInt ≤ 100) (hp : 0 ≤ p0.toInt ∧ p0.toInt ≤ 100) : RA l t a p0 sg tx ru ma := by
  by_cases k97 : aE7 a (stp l t) sg = 97
  · exact ra_97 hs hl ha hp k97
  by_cases k100 : aE7 a (stp l t) sg = 100
  · exact ra_100 hs hl ha hp k100
  by_cases k104 : aE7 a (stp l t) sg = 104
  · exact ra_104 hs hl ha hp k104
  by_cases k107 : aE7 a (stp l t) sg = 107
  · exact ra_107 hs hl ha hp k107
  by_cases k109 : aE7 a (stp l t) sg = 109
  · exact ra_109 hs hl ha hp k109
  by_cases k111 : aE7 a (stp l t) sg = 111
  · exact ra_111 hs hl ha hp k111
  by_cases k112 : aE7 a (stp l t) sg = 112
  · exact ra_112 hs hl ha hp k112
  by_cases k122 : aE7 a (stp l t) sg = 122
  · exact ra_122 hs hl ha hp k122
  unfold RA
  rw [aVT, if_neg k97, if_neg k100, if_neg k104, if_neg k107, if_neg k109, if_neg k111, if_neg k112, if_neg k122, aMq, hr_eq hs, if_neg k109, if_neg k112, if_neg k104, if_neg k100, if_neg k107, if_neg k97, if_neg k111, if_neg k122, fault_m, aKM, if_neg k109, aJS, if_neg k112, if_neg k104]
  exact Or.inr ⟨a, rfl, rfl, ha.1, Or.inl rfl⟩
end
