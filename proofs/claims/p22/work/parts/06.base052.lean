theorem dis_FT : ∀ (ms : List Bool) (i : Nat), i ∈ aAi ms → i ∈ yS ms → False
  | [], _, h, _ => by cases h
  | true :: ms, i, h, h2 => by
    obtain ⟨a, ha, ea⟩ := List.mem_map.mp (show i ∈ (aAi ms).map (fun i => i + 1) from h)
    rcases List.mem_cons.mp (show i ∈ 0 :: (yS ms).map (fun i => i + 1) from h2) with e | e
    · exact absurd (ea.trans e) (Nat.succ_ne_zero a)
    · obtain ⟨b, hb, eb⟩ := List.mem_map.mp e
      have e2 : b = a := Nat.succ.inj (eb.trans ea.symm)
      exact dis_FT ms a ha (e2 ▸ hb)
  | false :: ms, i, h2, h => by
    obtain ⟨a, ha, ea⟩ := List.mem_map.mp (show i ∈ (yS ms).map (fun i => i + 1) from h)
    rcases List.mem_cons.mp (show i ∈ 0 :: (aAi ms).map (fun i => i + 1) from h2) with e | e
    · exact absurd (ea.trans e) (Nat.succ_ne_zero a)
    · obtain ⟨b, hb, eb⟩ := List.mem_map.mp e
      have e2 : b = a := Nat.succ.inj (eb.trans ea.symm)
      exact dis_FT ms a (e2 ▸ hb) ha
