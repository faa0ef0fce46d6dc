theorem or_end {P Q : Int32 → Int32 → Int32 → Int32 → Int32 → Nat → Int32 → Int32 → Int32 → Int32 → Int32 → Int32 → Int32 → Int32 → (Nat → Int32) → (Nat → Int32) → (Nat → Int32) → (Nat → Int32) → (Nat → Int32) → (Nat → Int32) → (Nat → Int32) → (Nat → Int32) → (Nat → Int32) → Prop} {l fr sd und came : Int32} {tx ru now mx mh mw mr mf mk : Nat → Int32} {c : Int32 × Int32 × Int32 × Int32 × (Nat → Int32) × (Nat → Int32) × (Nat → Int32) × (Nat → Int32) × (Nat → Int32) × (Nat → Int32)} {n : Nat} {nf ns q wr : Int32} {nF nS : Nat → Int32} (hw : ¬ wr = -1) (hc : c.2.1 = q ∧ wr = q ∧ (c.1 = -1 ∨ ¬ c.2.1 = l)) (hbe : BE fr c.2.2.2.2.1 c.2.2.2.2.2.1 c.2.2.2.2.2.2.1 c.2.2.2.2.2.2.2.1 mx mh mw mr) (hbs : BS sd c.2.2.2.2.2.2.2.2.1 c.2.2.2.2.2.2.2.2.2 mf mk) (h : aU1 P tx ru n 0 fr sd 0 0 1 l 76 q wr nf ns und came now mx mh mw mr mf mk nF nS) (hq : (∀ (ans fr' sd' ty th : Int32) (rd : Nat) (le to at' wr' nf' ns' und' came' : Int32) (now' mx' mh' mw' mr' mf' mk' nF' nS' : Nat → Int32), P ans fr' sd' ty th rd le to at' wr' nf' ns' und' came' now' mx' mh' mw' mr' mf' mk' nF' nS' → ty = 0 → ORB l fr sd und came now mx mh mw mr mf mk (c) ans fr' sd' und' came' now' mx' mh' mw' mr' mf' mk' → Q ans fr' sd' ty th rd le to at' wr' nf' ns' und' came' now' mx' mh' mw' mr' mf' mk' nF' nS')) : aU1 Q tx ru n 0 fr sd 0 0 1 l 76 q wr nf ns und came now mx mh mw mr mf mk nF nS := by
  cases n with
  | zero => exact False.elim h
  | succ n =>
    refine And.intro (fun _ => ?_) (fun c1 => absurd rfl c1)
    have h := And.left h rfl
    unfold ws_X10_orchard_70 at h ⊢
    refine And.intro (fun c2 => ?_) (fun c2 => ?_)
    · exact or_bad hw hc hbe hbs (And.left h c2) hq
    · refine du_X10_fault (And.right h c2) ?_
      intro h
      rw [fault_w hw] at h ⊢
      exact or_bad hw hc hbe hbs h hq
