/-! ===== a call that doesn't fall makes a square of a square ===== -/
theorem mate_p {c f : Nat → Nat} {p : Nat → Bool} {g d e : Nat} (h : mate c f p g d = some e) : p e = true := by
  unfold mate at h
  split at h
  · split at h
    · cases h
    · split at h
      · rename_i q; cases h; exact q.1
      · cases h
  · split at h
    · split at h
      · cases h
      · split at h
        · rename_i q; cases h; exact q.1
        · cases h
    · split at h
      · rename_i q; cases h; exact q.1
      · split at h
        · cases h
        · split at h
          · rename_i q; cases h; exact q.1
          · cases h
def InjO (t : Nat → Option Nat) : Prop := ∀ i, i < 8 → ∀ j, j < 8 → t i = t j → i = j
theorem pst_inv {c f : Nat → Nat} {g : Nat} {p0 : Nat → Bool} (hv : Val c f) (hi : Inj c) (hg : ¬ g = 10) : ∀ i, i ≤ 8 → (∀ j, (pst c f g p0 i).1 j = true → (pst c f g p0 i).2.1 j = some (c j)) ∧ InjO (pst c f g p0 i).2.1 ∧ (∀ j, ∃ x, (pst c f g p0 i).2.1 j = some x)
  | 0, _ => ⟨fun j _ => rfl, fun i h1 j h2 e => hi i h1 j h2 (by injection e), fun j => ⟨_, rfl⟩⟩
  | i + 1, hi8 => by
    obtain ⟨a1, a2, a3⟩ := pst_inv (p0 := p0) hv hi hg i (by omega)
    cases hp : (pst c f g p0 i).1 i with
    | false =>
      have he : pst c f g p0 (i + 1) = pst c f g p0 i := by rw [pst, hp]
      rw [he]
      exact ⟨a1, a2, a3⟩
    | true =>
      cases hm : mate c f (pst c f g p0 i).1 g i with
      | none =>
        have he : pst c f g p0 (i + 1) = pst c f g p0 i := by rw [pst, hp]; dsimp only; rw [hm]
        rw [he]
        exact ⟨a1, a2, a3⟩
      | some e =>
        have he : pst c f g p0 (i + 1) = (fun j => (pst c f g p0 i).1 j && (!decide (j = i) && !decide (j = e)), pT c f g i e (pst c f g p0 i).2.1, pU c f g i e (pst c f g p0 i).2.2.1, (pst c f g p0 i).2.2.2 + 1) := by rw [pst, hp]; dsimp only; rw [hm]
        rw [he]
        have he8 := mate_lt hm
        have hne := mate_ne (hv i (by omega)).1 hm
        have t1 := a1 i hp
        have t2 := a1 e (mate_p hm)
        generalize (pst c f g p0 i).2.1 = t at a1 a2 a3 t1 t2 ⊢
        have ht : ∀ j, pT c f g i e t j = if j = e then t i else if j = i then t e else t j := fun j => by
          unfold pT
          rw [if_neg hg]
          unfold up
          rw [t1, t2]
        dsimp only
        refine ⟨fun j hj => ?_, fun x h1 y h2 q => ?_, fun j => ?_⟩
        · rw [ht]
          simp only [Bool.and_eq_true, Bool.not_eq_true', decide_eq_false_iff_not] at hj
          rw [if_neg hj.2.2, if_neg hj.2.1]
          exact a1 j hj.1
        · rw [ht, ht] at q
          have ai := fun z => a2 z
          by_cases x1 : x = e
          · by_cases y1 : y = e
            · omega
            · rw [if_pos x1, if_neg y1] at q
              by_cases y2 : y = i
              · rw [if_pos y2] at q
                have := a2 i (by omega) e he8 q
                omega
              · rw [if_neg y2] at q
                have := a2 i (by omega) y h2 q
                omega
          · rw [if_neg x1] at q
            by_cases x2 : x = i
            · rw [if_pos x2] at q
              by_cases y1 : y = e
              · rw [if_pos y1] at q
                have := a2 e he8 i (by omega) q
                omega
              · rw [if_neg y1] at q
                by_cases y2 : y = i
                · omega
                · rw [if_neg y2] at q
                  have := a2 e he8 y h2 q
                  omega
            · rw [if_neg x2] at q
              by_cases y1 : y = e
              · rw [if_pos y1] at q
                have := a2 x h1 i (by omega) q
                omega
              · rw [if_neg y1] at q
                by_cases y2 : y = i
                · rw [if_pos y2] at q
                  have := a2 x h1 e he8 q
                  omega
                · rw [if_neg y2] at q
                  exact a2 x h1 y h2 q
        · rw [ht]
          split
          · exact a3 i
          · split
            · exact a3 e
            · exact a3 j
theorem smf_at {c : Nat → Nat} {t : Nat → Option Nat} : ∀ {n : Nat}, smf c t n = false → ∀ j, j < n → wy c t j = 0
  | 0, _, j, h => absurd h (by omega)
  | n + 1, h, j, hj => by
    have h1 : (smf c t n || !decide (wy c t n = 0)) = false := h
    rw [Bool.or_eq_false_iff] at h1
    by_cases e : j = n
    · subst e
      simpa using h1.2
    · exact smf_at h1.1 j (by omega)
theorem crw_at {t : Nat → Option Nat} {d x : Nat} : ∀ {n : Nat}, crw t d x n = false → ∀ j, j < n → ¬ j = d → ¬ t j = some x
  | 0, _, j, h => absurd h (by omega)
  | n + 1, h, j, hj => by
    have h1 : (crw t d x n || (!decide (n = d) && decide (t n = some x))) = false := h
    rw [Bool.or_eq_false_iff] at h1
    by_cases e : j = n
    · subst e
      have := h1.2
      intro q1 q2
      simp [q1, q2] at this
    · exact crw_at h1.1 j (by omega)
/-- nobody falls: all have a cell, each its own -/
theorem wy_inj {c : Nat → Nat} {t : Nat → Option Nat} (hi : Inj c) (h : ∀ j, j < 8 → wy c t j = 0) : InjO t ∧ ∀ j, j < 8 → ∃ x, t j = some x := by
  have hs : ∀ j, j < 8 → ∃ x, t j = some x := by
    intro j hj
    cases ht : t j with
    | some x => exact ⟨x, rfl⟩
    | none =>
      have := h j hj
      unfold wy goesB whyf at this
      rw [ht] at this
      simp at this
  have hc : ∀ i, i < 8 → goesB c t i = true → ∀ j, j < 8 → t i = t j → i = j := by
    intro i h1 hg j h2 e
    obtain ⟨x, hx⟩ := hs i h1
    have := h i h1
    unfold wy whyf at this
    rw [if_pos hg, hx] at this
    dsimp only at this
    split at this
    · cases this
    · split at this
      · cases this
      · rename_i q
        by_cases z : i = j
        · exact z
        · exact absurd (e.symm.trans hx) (crw_at (by simpa using q) j h2 (fun y => z y.symm))
  refine ⟨fun i h1 j h2 e => ?_, hs⟩
  cases g1 : goesB c t i with
  | true => exact hc i h1 g1 j h2 e
  | false =>
    cases g2 : goesB c t j with
    | true => exact (hc j h2 g2 i h1 e.symm).symm
    | false =>
      have e1 : t i = some (c i) := by simpa [goesB] using g1
      have e2 : t j = some (c j) := by simpa [goesB] using g2
      rw [e1, e2] at e
      exact hi i h1 j h2 (by injection e)
theorem PT_inj {c f : Nat → Nat} {w g : Nat} (hv : Val c f) (hi : Inj c) (hg : g < 12) (h : POK c f w g = true) : InjO (PT c f w g) ∧ ∀ j, j < 8 → ∃ x, PT c f w g j = some x := by
  have hy : PY c f w g = 0 := by
    unfold POK okx at h
    rw [Bool.and_eq_true, decide_eq_true_eq] at h
    exact h.1
  by_cases hf : g = 0 ∨ g = 1 ∨ g = 10
  · have hfx : fx (PY c f w g) g = true := by
      rw [hy]
      rcases hf with rfl | rfl | rfl <;> rfl
    unfold POK okx at h
    rw [hfx, hy] at h
    have : smf c (PT c f w g) 8 = false := by simpa using h
    exact wy_inj hi (smf_at this)
  · by_cases hno : noB (mnt c f w) = true
    · rw [PY, if_pos hno] at hy
      cases hy
    · have base : InjO (fun j => some (c j)) ∧ ∀ j, j < 8 → ∃ x, (fun j => some (c j)) j = some x := ⟨fun i h1 j h2 e => hi i h1 j h2 (by injection e), fun j _ => ⟨_, rfl⟩⟩
      by_cases h11 : g = 11
      · cases hk : rok c f w with
        | false =>
          rw [PY, if_neg hno, if_pos h11, hk] at hy
          cases hy
        | true =>
          have e1 : PT c f w g = (fun j => some (rgT c j)) := by simp only [PT, if_neg hno, if_pos h11, hk, if_true]
          rw [e1]
          have hr : ringB c 8 = true := by
            unfold rok at hk
            rw [Bool.and_eq_true] at hk
            exact hk.2
          refine ⟨fun i h1 j h2 e => ?_, fun j _ => ⟨_, rfl⟩⟩
          obtain ⟨k1, q1, r1⟩ := ring_all hr h1
          obtain ⟨k2, q2, r2⟩ := ring_all hr h2
          have e : rgT c i = rgT c j := by injection e
          unfold rgT at e
          rw [r1, r2, pl_HC k1 q1, pl_HC k2 q2] at e
          have := HC_inj _ (Nat.mod_lt _ (by decide)) _ (Nat.mod_lt _ (by decide)) e
          have : k1 = k2 := by omega
          subst this
          exact hi i h1 j h2 (r1.trans r2.symm)
      · by_cases h4 : g ≤ 4
        · have e1 : PT c f w g = eT c f (mnt c f w) g := by simp only [PT, if_neg hno, if_neg h11, if_pos h4]
          have e2 : eT c f (mnt c f w) g = fun j => some (c j) := by
            funext j
            unfold eT
            split
            · rfl
            · split
              · exact absurd (Or.inl rfl) hf
              · exact absurd (Or.inr (Or.inl rfl)) hf
              · rfl
          rw [e1, e2]
          exact base
        · have e1 : PT c f w g = (pst c f g (mnt c f w) 8).2.1 := by simp only [PT, if_neg hno, if_neg h11, if_neg h4]
          rw [e1]
          obtain ⟨-, a2, a3⟩ := pst_inv (p0 := mnt c f w) hv hi (fun q => hf (Or.inr (Or.inr q))) 8 (Nat.le_refl _)
          exact ⟨a2, fun j _ => a3 j⟩
theorem up_lt4 {u : Nat → Nat} {k v : Nat} (h : ∀ j, j < 8 → u j < 4) (hv : v < 4) : ∀ j, j < 8 → up u k v j < 4 := fun j hj => by
  unfold up
  split
  · exact hv
  · exact h j hj
theorem pst_U {c f : Nat → Nat} {g : Nat} {p0 : Nat → Bool} (hv : Val c f) : ∀ i, ∀ j, j < 8 → (pst c f g p0 i).2.2.1 j < 4
  | 0, j, hj => (hv j hj).2
  | i + 1, j, hj => by
    have ih := pst_U (g := g) (p0 := p0) hv i
    unfold pst
    split
    · exact ih j hj
    · split
      · exact ih j hj
      · dsimp only
        have m4 : ∀ x, x % 4 < 4 := fun x => Nat.mod_lt _ (by decide)
        unfold pU
        split
        · exact up_lt4 ih (m4 _) j hj
        · split
          · exact up_lt4 (up_lt4 ih (m4 _)) (m4 _) j hj
          · split
            · exact up_lt4 (up_lt4 ih (m4 _)) (m4 _) j hj
            · split
              · exact up_lt4 (up_lt4 ih (m4 _)) (m4 _) j hj
              · exact ih j hj
theorem PU_lt {c f : Nat → Nat} {w g : Nat} (hv : Val c f) {j : Nat} (hj : j < 8) : PU c f w g j < 4 := by
  have h4 := (hv j hj).2
  unfold PU
  split
  · exact h4
  · split
    · split
      · exact HF_lt _ (Nat.mod_lt _ (by decide))
      · exact h4
    · split
      · unfold eU
        split
        · exact h4
        · split
          · exact h4
          · exact h4
          · exact Nat.mod_lt _ (by decide)
          · exact Nat.mod_lt _ (by decide)
          · exact Nat.mod_lt _ (by decide)
      · exact pst_U hv 8 j hj
theorem pkI_ext {a b a' b' : Nat → Int32} : ∀ n, (∀ j, j < n → a j = a' j ∧ b j = b' j) → pkI a b n = pkI a' b' n
  | 0, _ => rfl
  | n + 1, h => by
    unfold pkI
    rw [pkI_ext n (fun j hj => h j (by omega)), (h n (by omega)).1, (h n (by omega)).2]
theorem pkR_ext {a b a' b' : Nat → Int32} : ∀ n, (∀ j, j < n → a j = a' j ∧ b j = b' j) → pkR a b n = pkR a' b' n
  | 0, _ => rfl
  | n + 1, h => by
    unfold pkR
    rw [pkR_ext n (fun j hj => h j (by omega)), (h n (by omega)).1, (h n (by omega)).2]
theorem Val_q (q : Int64) : Val (sqc q) (sqf q) := fun j _ => ⟨sqc_lt q j, sqf_lt q j⟩
/-- a square of the class as the reference's number -/
def bt (q : Int64) : Int64 := pkR (fun j => nI (sqc q j)) (fun j => nI (sqf q j)) 8
theorem bt_c (q : Int64) {j : Nat} (hj : j < 8) : rqc (bt q) j = sqc q j := rqc_pk (Val_q q) hj
theorem bt_f (q : Int64) {j : Nat} (hj : j < 8) : rqf (bt q) j = sqf q j := rqf_pk (Val_q q) hj
theorem who_ext {c c' : Nat → Nat} : ∀ {n x : Nat}, (∀ j, j < n → c j = c' j) → who c n x = who c' n x
  | 0, x, _ => rfl
  | n + 1, x, h => by
    unfold who
    rw [h n (by omega), who_ext (fun j hj => h j (by omega))]
theorem bt_inj {q q' : Int64} (h : Vq q) (h' : Vq q') (e : bt q = bt q') : q = q' := by
  rw [h.2, h'.2]
  exact pkI_ext 8 (fun j hj => ⟨by rw [← bt_c q hj, e, bt_c q' hj], by rw [← bt_f q hj, e, bt_f q' hj]⟩)
/-- the next square, and the reference's number of it -/
theorem nx_at {q q' : Int64} {c : Nat} (hi : Inj (sqc q)) (hc : c < 108) (h : nxC q c = some q') : POK (sqc q) (sqf q) (c / 12) (c % 12) = true ∧ Vq q' ∧ (∀ j, j < 8 → PT (sqc q) (sqf q) (c / 12) (c % 12) j = some (sqc q' j) ∧ PU (sqc q) (sqf q) (c / 12) (c % 12) j = sqf q' j) := by
  unfold nxC at h
  split at h
  · rename_i ho
    obtain ⟨h1, h2⟩ := PT_inj (Val_q q) hi (Nat.mod_lt _ (by decide)) ho
    have hl := PT_Tl (w := c / 12) (g := c % 12) (Val_q q)
    have hu := fun (j : Nat) (hj : j < 8) => PU_lt (w := c / 12) (g := c % 12) (Val_q q) hj
    have hx : ∀ j, j < 8 → PT (sqc q) (sqf q) (c / 12) (c % 12) j = some ((PT (sqc q) (sqf q) (c / 12) (c % 12) j).getD 0) := fun j hj => by
      obtain ⟨x, e⟩ := h2 j hj
      rw [e]
      rfl
    have hv : Val (fun j => (PT (sqc q) (sqf q) (c / 12) (c % 12) j).getD 0) (PU (sqc q) (sqf q) (c / 12) (c % 12)) := fun j hj => ⟨hl j hj _ (hx j hj), hu j hj⟩
    have e : q' = pkI (fun j => nI ((PT (sqc q) (sqf q) (c / 12) (c % 12) j).getD 0)) (fun j => nI (PU (sqc q) (sqf q) (c / 12) (c % 12) j)) 8 := by
      injection h with h
      rw [← h]
      exact pkI_ext 8 (fun j hj => ⟨by rw [hx j hj]; rfl, rfl⟩)
    have s1 : ∀ j, j < 8 → sqc q' j = (PT (sqc q) (sqf q) (c / 12) (c % 12) j).getD 0 := fun j hj => by rw [e]; exact sqc_pk hv hj
    have s2 : ∀ j, j < 8 → sqf q' j = PU (sqc q) (sqf q) (c / 12) (c % 12) j := fun j hj => by rw [e]; exact sqf_pk hv hj
    refine ⟨ho, ⟨fun i hi j hj z => h1 i hi j hj ?_, ?_⟩, fun j hj => ⟨?_, (s2 j hj).symm⟩⟩
    · rw [hx i hi, hx j hj, ← s1 i hi, ← s1 j hj, z]
    · have : pkI (fun j => nI (sqc q' j)) (fun j => nI (sqf q' j)) 8 = q' := by
        rw [pkI_ext 8 (fun j hj => ⟨congrArg nI (s1 j hj), congrArg nI (s2 j hj)⟩)]
        exact e.symm
      exact this.symm
    · rw [s1 j hj]
      exact hx j hj
  · cases h
theorem nxv : NXV := fun _ _ _ h hc e => (nx_at h.1 hc e).2.1
theorem nxi : ∀ q c q', Inj (sqc q) → c < 108 → nxC q c = some q' → Inj (sqc q') := fun _ _ _ h hc e => (nx_at h hc e).2.1.1
theorem nx_bt {q q' : Int64} {c : Nat} (hi : Inj (sqc q)) (hc : c < 108) (h : nxC q c = some q') {rt ru : Nat → Int32} (h1 : ∀ j, j < 8 → rt j = stN (PT (sqc q) (sqf q) (c / 12) (c % 12) j)) (h2 : ∀ j, j < 8 → ru j = nI (PU (sqc q) (sqf q) (c / 12) (c % 12) j)) : pkR rt ru 8 = bt q' := by
  obtain ⟨-, -, h3⟩ := nx_at hi hc h
  exact pkR_ext 8 (fun j hj => ⟨by rw [h1 j hj, (h3 j hj).1]; rfl, by rw [h2 j hj, (h3 j hj).2]⟩)
theorem home_V : Vq homeP := by
  have hv : Val HC HF := fun j hj => ⟨HC_lt j hj, HF_lt j hj⟩
  have s1 : ∀ j, j < 8 → sqc homeP j = HC j := fun j hj => sqc_pk hv hj
  have s2 : ∀ j, j < 8 → sqf homeP j = HF j := fun j hj => sqf_pk hv hj
  exact ⟨fun i hi j hj e => HC_inj i hi j hj (by rw [← s1 i hi, ← s1 j hj, e]), pkI_ext 8 (fun j hj => ⟨congrArg nI (s1 j hj).symm, congrArg nI (s2 j hj).symm⟩)⟩
theorem home_bt : bt homeP = pkR (fun j => nI (HC j)) (fun j => nI (HF j)) 8 := by
  have hv : Val HC HF := fun j hj => ⟨HC_lt j hj, HF_lt j hj⟩
  exact pkR_ext 8 (fun j hj => ⟨congrArg nI (sqc_pk hv hj), congrArg nI (sqf_pk hv hj)⟩)
