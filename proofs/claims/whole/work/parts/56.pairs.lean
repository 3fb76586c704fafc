/-! ===== class and reference, call by call ===== -/
abbrev ST : Type := Nat × (Nat → Nat) × Nat × Nat × (Nat → Nat) × (Nat → Int64) × Bool × Nat × (Nat → Nat) × (Nat → Int64) × Nat × (Nat → Int32) × Int32 × (Nat → Int32)
def CIs (s : ST) (R : List AE) (w : WD) : Prop := CI s.1 s.2.1 s.2.2.1 s.2.2.2.1 s.2.2.2.2.1 s.2.2.2.2.2.1 s.2.2.2.2.2.2.1 s.2.2.2.2.2.2.2.1 s.2.2.2.2.2.2.2.2.1 s.2.2.2.2.2.2.2.2.2.1 s.2.2.2.2.2.2.2.2.2.2.1 s.2.2.2.2.2.2.2.2.2.2.2.1 s.2.2.2.2.2.2.2.2.2.2.2.2.1 s.2.2.2.2.2.2.2.2.2.2.2.2.2 R w
def RIs (s : ST) (Q : List AE) (w : WD) : Prop := RI s.1 s.2.1 s.2.2.1 s.2.2.2.1 s.2.2.2.2.1 s.2.2.2.2.2.1 s.2.2.2.2.2.2.1 s.2.2.2.2.2.2.2.1 s.2.2.2.2.2.2.2.2.1 s.2.2.2.2.2.2.2.2.2.1 s.2.2.2.2.2.2.2.2.2.2.1 s.2.2.2.2.2.2.2.2.2.2.2.1 s.2.2.2.2.2.2.2.2.2.2.2.2.1 s.2.2.2.2.2.2.2.2.2.2.2.2.2 Q w
def SIs (s : ST) : Prop := SI s.1 s.2.1 s.2.2.1 s.2.2.2.1 s.2.2.2.2.1 s.2.2.2.2.2.1 s.2.2.2.2.2.2.2.1 s.2.2.2.2.2.2.2.2.1 s.2.2.2.2.2.2.2.2.2.1 s.2.2.2.2.2.2.2.2.2.2.1
/-- the same answer, and the same state behind it, by a method of the class and by one of the reference -/
def PR (M1 : MI) (k1 : Nat) (M2 : MI) (k2 : Nat) (as : List Value) : Prop := ∀ s : ST, SIs s → ∃ (a : Int32) (s' : ST), (∀ R w, CIs s R w → SemP M1 k1 0 0 (.ref 0 :: as) w (Top a (CIs s' R))) ∧ (∀ Q w, RIs s Q w → SemP M2 k2 0 0 (.ref 100 :: as) w (Top a (RIs s' Q)))
theorem i32_nn {x : Int32} (h : ¬ x < 0) : ∃ i, i < 2 ^ 31 ∧ x = nI i := by
  have h1 : ¬ x.toInt < 0 := fun z => h (by rw [Int32.lt_iff_toInt_lt]; exact z)
  have h2 := Int32.toInt_lt x
  refine ⟨x.toInt.toNat, by omega, ?_⟩
  apply Int32.toInt_inj.mp
  rw [nI_toInt (by omega)]
  omega
theorem i32_m1 (x : Int32) : x < -1 ∨ x = -1 ∨ ∃ i, i < 2 ^ 31 ∧ x = nI i := by
  by_cases h1 : x < -1
  · exact Or.inl h1
  · by_cases h2 : x = -1
    · exact Or.inr (Or.inl h2)
    · exact Or.inr (Or.inr (i32_nn (Int32_m1_lt h1 h2)))
theorem i32_in (x : Int32) (k : Nat) (hk : k < 2 ^ 31) : (x < 0 ∨ nI k ≤ x) ∨ ∃ i, i < k ∧ x = nI i := by
  by_cases h1 : x < 0
  · exact Or.inl (Or.inl h1)
  · obtain ⟨i, hi, rfl⟩ := i32_nn h1
    by_cases h2 : i < k
    · exact Or.inr ⟨i, h2, rfl⟩
    · exact Or.inl (Or.inr ((nI_leI hk hi).mpr (by omega)))
theorem rtx_lt {b : Nat → Nat} {L : Nat} (hL : L ≤ 120) : ∀ (m s : Nat) (l : List Nat) (x : Nat), s ≤ L → (rtx b L m s l).1 = some x → x < 2 ^ 31
  | 0, s, l, x, hs, h => by
    have h : some s = some x := h
    injection h with h
    omega
  | m + 1, s, l, x, hs, h => by
    unfold rtx at h
    cases hx : (rdc b L s).1 with
    | false =>
      rw [hx] at h
      dsimp only at h
      injection h with h
      have := (rdc_no hs hx).2
      omega
    | true =>
      rw [hx] at h
      dsimp only at h
      obtain ⟨a1, a2, -⟩ := rdc_at hs hx
      by_cases q1 : (rdc b L s).2.1 = L
      · rw [if_pos q1] at h
        cases h
      · rw [if_neg q1] at h
        by_cases q2 : byt b L (rdc b L s).2.1 = 44
        · rw [if_pos q2] at h
          exact rtx_lt hL m _ _ x (by omega) h
        · rw [if_neg q2] at h
          injection h with h
          omega
theorem tx_lt {b : Nat → Nat} {L x : Nat} (hL : L ≤ 120) (h : (tx b L).1 = some x) : x < 2 ^ 31 := rtx_lt hL 121 0 [] x (Nat.zero_le _) h
theorem p_feed (x : Int32) : PR mX8_feed 3 mX9_feed 3 [.int x] := by
  intro s hs
  obtain ⟨L, b, n, m, cd, Q, ik, kn, kc, kQ, fn, fr, fz, tal⟩ := s
  have hs : SI L b n m cd Q kn kc kQ fn := hs
  by_cases hx : x < nI 32 ∨ nI 126 < x
  · exact ⟨_, (L, b, n, m, cd, Q, ik, kn, kc, kQ, fn, fr, fz, tal), fun R w (h : CI L b n m cd Q ik kn kc kQ fn fr fz tal R w) => c_feed0 h hx, fun Q2 w (h : RI L b n m cd Q ik kn kc kQ fn fr fz tal Q2 w) => d_feed0 h hx⟩
  · have h32 : ¬ x < nI 32 := fun z => hx (Or.inl z)
    have h126 : ¬ nI 126 < x := fun z => hx (Or.inr z)
    have h0 : ¬ x < 0 := fun z => h32 (by
      rw [Int32.lt_iff_toInt_lt] at z ⊢
      have e1 : (0 : Int32).toInt = 0 := by decide
      have e2 : (nI 32).toInt = 32 := by decide
      omega)
    obtain ⟨v, hv, rfl⟩ := i32_nn h0
    rw [nI_ltI hv (by decide)] at h32
    rw [nI_ltI (by decide) hv] at h126
    have hL : L ≤ 120 := hs.1
    by_cases hl : L = 120
    · subst hl
      exact ⟨_, ((120), b, n, m, cd, Q, ik, kn, kc, kQ, fn, fr, fz, tal), fun R w (h : CI (120) b n m cd Q ik kn kc kQ fn fr fz tal R w) => c_feed1 h (by omega) (by omega), fun Q2 w (h : RI (120) b n m cd Q ik kn kc kQ fn fr fz tal Q2 w) => d_feed1 h (by omega) (by omega)⟩
    · exact ⟨_, ((L + 1), (up b L v), n, m, cd, Q, ik, kn, kc, kQ, fn, fr, fz, tal), fun R w (h : CI L b n m cd Q ik kn kc kQ fn fr fz tal R w) => c_feed2 h (by omega) (by omega) (Nat.lt_of_le_of_ne hL hl), fun Q2 w (h : RI L b n m cd Q ik kn kc kQ fn fr fz tal Q2 w) => d_feed2 h (by omega) (by omega) (Nat.lt_of_le_of_ne hL hl)⟩
theorem p_dance : PR mX8_dance 10 mX9_dance 10 [] := by
  intro s hs
  obtain ⟨L, b, n, m, cd, Q, ik, kn, kc, kQ, fn, fr, fz, tal⟩ := s
  have hs : SI L b n m cd Q kn kc kQ fn := hs
  have hL : L ≤ 120 := hs.1
  cases ht : (tx b L).1 with
  | some f =>
    exact ⟨_, ((0), b, n, m, cd, Q, ik, kn, kc, kQ, fn, fr, fz, tal), fun R w (h : CI L b n m cd Q ik kn kc kQ fn fr fz tal R w) => c_dance_f h ht (tx_lt hL ht), fun Q2 w (h : RI L b n m cd Q ik kn kc kQ fn fr fz tal Q2 w) => d_dance_f h ht (tx_lt hL ht)⟩
  | none =>
    by_cases hl : n + (tx b L).2.length ≤ 200
    · by_cases hk : (dgo (tx b L).2 0 (n, m, cd, Q, tal)).1 < (tx b L).2.length
      · exact ⟨nI (dgo (tx b L).2 0 (n, m, cd, Q, tal)).1, ((0), b, ((dgo (tx b L).2 0 (n, m, cd, Q, tal)).2.1), ((dgo (tx b L).2 0 (n, m, cd, Q, tal)).2.2.1), ((dgo (tx b L).2 0 (n, m, cd, Q, tal)).2.2.2.1), ((dgo (tx b L).2 0 (n, m, cd, Q, tal)).2.2.2.2.1), ik, kn, kc, kQ, (fN ((dgo (tx b L).2 0 (n, m, cd, Q, tal)).2.2.2.2.1 (dgo (tx b L).2 0 (n, m, cd, Q, tal)).2.1) ((tx b L).2.getD (dgo (tx b L).2 0 (n, m, cd, Q, tal)).1 0)), (fR ((dgo (tx b L).2 0 (n, m, cd, Q, tal)).2.2.2.2.1 (dgo (tx b L).2 0 (n, m, cd, Q, tal)).2.1) ((tx b L).2.getD (dgo (tx b L).2 0 (n, m, cd, Q, tal)).1 0)), (fY ((dgo (tx b L).2 0 (n, m, cd, Q, tal)).2.2.2.2.1 (dgo (tx b L).2 0 (n, m, cd, Q, tal)).2.1) ((tx b L).2.getD (dgo (tx b L).2 0 (n, m, cd, Q, tal)).1 0)), ((dgo (tx b L).2 0 (n, m, cd, Q, tal)).2.2.2.2.2)), fun R w (h : CI L b n m cd Q ik kn kc kQ fn fr fz tal R w) => semP_imp (c_dance_1 nxv h ht hl) (fun r w' z => ⟨z.1, by have z2 := z.2; unfold DP at z2; rw [if_pos hk] at z2; exact z2⟩), fun Q2 w (h : RI L b n m cd Q ik kn kc kQ fn fr fz tal Q2 w) => semP_imp (d_dance_1 h ht hl) (fun r w' z => ⟨z.1, by have z2 := z.2; unfold DPr at z2; rw [if_pos hk] at z2; exact z2⟩)⟩
      · exact ⟨nI (dgo (tx b L).2 0 (n, m, cd, Q, tal)).1, ((0), b, ((dgo (tx b L).2 0 (n, m, cd, Q, tal)).2.1), ((dgo (tx b L).2 0 (n, m, cd, Q, tal)).2.2.1), ((dgo (tx b L).2 0 (n, m, cd, Q, tal)).2.2.2.1), ((dgo (tx b L).2 0 (n, m, cd, Q, tal)).2.2.2.2.1), ik, kn, kc, kQ, (0), fr, (nI 0), ((dgo (tx b L).2 0 (n, m, cd, Q, tal)).2.2.2.2.2)), fun R w (h : CI L b n m cd Q ik kn kc kQ fn fr fz tal R w) => semP_imp (c_dance_1 nxv h ht hl) (fun r w' z => ⟨z.1, by have z2 := z.2; unfold DP at z2; rw [if_neg hk] at z2; exact z2⟩), fun Q2 w (h : RI L b n m cd Q ik kn kc kQ fn fr fz tal Q2 w) => semP_imp (d_dance_1 h ht hl) (fun r w' z => ⟨z.1, by have z2 := z.2; unfold DPr at z2; rw [if_neg hk] at z2; exact z2⟩)⟩
    · exact ⟨_, ((0), b, n, m, cd, Q, ik, kn, kc, kQ, fn, fr, fz, tal), fun R w (h : CI L b n m cd Q ik kn kc kQ fn fr fz tal R w) => c_dance_l h ht (Nat.lt_of_not_le hl), fun Q2 w (h : RI L b n m cd Q ik kn kc kQ fn fr fz tal Q2 w) => d_dance_l h ht (Nat.lt_of_not_le hl)⟩
theorem p_fall (x : Int32) : PR mX8_fall 3 mX9_fall 3 [.int x] := by
  intro s hs
  obtain ⟨L, b, n, m, cd, Q, ik, kn, kc, kQ, fn, fr, fz, tal⟩ := s
  have hs : SI L b n m cd Q kn kc kQ fn := hs
  rcases i32_m1 x with h1 | rfl | ⟨i, hi, rfl⟩
  · exact ⟨_, (L, b, n, m, cd, Q, ik, kn, kc, kQ, fn, fr, fz, tal), fun R w (h : CI L b n m cd Q ik kn kc kQ fn fr fz tal R w) => c_fall_b h h1, fun Q2 w (h : RI L b n m cd Q ik kn kc kQ fn fr fz tal Q2 w) => d_fall_b h h1⟩
  · exact ⟨_, (L, b, n, m, cd, Q, ik, kn, kc, kQ, fn, fr, fz, tal), fun R w (h : CI L b n m cd Q ik kn kc kQ fn fr fz tal R w) => c_fall_m h, fun Q2 w (h : RI L b n m cd Q ik kn kc kQ fn fr fz tal Q2 w) => d_fall_m h⟩
  · cases i with
    | zero =>
      exact ⟨_, (L, b, n, m, cd, Q, ik, kn, kc, kQ, fn, fr, fz, tal), fun R w (h : CI L b n m cd Q ik kn kc kQ fn fr fz tal R w) => c_fall_0 h, fun Q2 w (h : RI L b n m cd Q ik kn kc kQ fn fr fz tal Q2 w) => d_fall_0 h⟩
    | succ i =>
      by_cases hf : i < fn
      · exact ⟨_, (L, b, n, m, cd, Q, ik, kn, kc, kQ, fn, fr, fz, tal), fun R w (h : CI L b n m cd Q ik kn kc kQ fn fr fz tal R w) => c_fall_1 h hf, fun Q2 w (h : RI L b n m cd Q ik kn kc kQ fn fr fz tal Q2 w) => d_fall_1 h hf⟩
      · exact ⟨_, (L, b, n, m, cd, Q, ik, kn, kc, kQ, fn, fr, fz, tal), fun R w (h : CI L b n m cd Q ik kn kc kQ fn fr fz tal R w) => c_fall_2 h (Nat.le_of_not_lt hf) hi, fun Q2 w (h : RI L b n m cd Q ik kn kc kQ fn fr fz tal Q2 w) => d_fall_2 h (Nat.le_of_not_lt hf) hi⟩
theorem p_would : PR mX8_would 10 mX9_would 10 [] := by
  intro s hs
  obtain ⟨L, b, n, m, cd, Q, ik, kn, kc, kQ, fn, fr, fz, tal⟩ := s
  have hs : SI L b n m cd Q kn kc kQ fn := hs
  have hL : L ≤ 120 := hs.1
  cases ht : (tx b L).1 with
  | some f =>
    exact ⟨_, ((0), b, n, m, cd, Q, ik, kn, kc, kQ, fn, fr, fz, tal), fun R w (h : CI L b n m cd Q ik kn kc kQ fn fr fz tal R w) => c_would_f h ht (tx_lt hL ht), fun Q2 w (h : RI L b n m cd Q ik kn kc kQ fn fr fz tal Q2 w) => d_would_f h ht (tx_lt hL ht)⟩
  | none =>
    by_cases h1 : (tx b L).2.length = 1
    · cases hp : POK (sqc (Q n)) (sqf (Q n)) ((tx b L).2.getD 0 0 / 100) ((tx b L).2.getD 0 0 % 100) with
      | true =>
        exact ⟨_, ((0), b, n, m, cd, Q, ik, kn, kc, kQ, fn, fr, fz, tal), fun R w (h : CI L b n m cd Q ik kn kc kQ fn fr fz tal R w) => c_would_1 h ht h1 hp, fun Q2 w (h : RI L b n m cd Q ik kn kc kQ fn fr fz tal Q2 w) => d_would_1 h ht h1 hp⟩
      | false =>
        exact ⟨_, ((0), b, n, m, cd, Q, ik, kn, kc, kQ, fn, fr, fz, tal), fun R w (h : CI L b n m cd Q ik kn kc kQ fn fr fz tal R w) => c_would_0 h ht h1 hp, fun Q2 w (h : RI L b n m cd Q ik kn kc kQ fn fr fz tal Q2 w) => d_would_0 h ht h1 hp⟩
    · exact ⟨_, ((0), b, n, m, cd, Q, ik, kn, kc, kQ, fn, fr, fz, tal), fun R w (h : CI L b n m cd Q ik kn kc kQ fn fr fz tal R w) => c_would_b h ht h1, fun Q2 w (h : RI L b n m cd Q ik kn kc kQ fn fr fz tal Q2 w) => d_would_b h ht h1⟩
theorem p_undo : PR mX8_undo 3 mX9_undo 3 [] := by
  intro s hs
  obtain ⟨L, b, n, m, cd, Q, ik, kn, kc, kQ, fn, fr, fz, tal⟩ := s
  have hs : SI L b n m cd Q kn kc kQ fn := hs
  cases n with
  | zero =>
    exact ⟨_, (L, b, (0), m, cd, Q, ik, kn, kc, kQ, fn, fr, fz, tal), fun R w (h : CI L b (0) m cd Q ik kn kc kQ fn fr fz tal R w) => c_undo0 h, fun Q2 w (h : RI L b (0) m cd Q ik kn kc kQ fn fr fz tal Q2 w) => d_undo0 h⟩
  | succ n =>
    exact ⟨_, (L, b, n, m, cd, Q, ik, kn, kc, kQ, fn, fr, fz, tal), fun R w (h : CI L b (n + 1) m cd Q ik kn kc kQ fn fr fz tal R w) => c_undo1 h, fun Q2 w (h : RI L b (n + 1) m cd Q ik kn kc kQ fn fr fz tal Q2 w) => d_undo1 h⟩
theorem p_redo : PR mX8_redo 3 mX9_redo 3 [] := by
  intro s hs
  obtain ⟨L, b, n, m, cd, Q, ik, kn, kc, kQ, fn, fr, fz, tal⟩ := s
  have hs : SI L b n m cd Q kn kc kQ fn := hs
  by_cases hm : n < m
  · exact ⟨_, (L, b, (n + 1), m, cd, Q, ik, kn, kc, kQ, fn, fr, fz, (upd tal (cd n % 100) (tal (cd n % 100) + nI 1))), fun R w (h : CI L b n m cd Q ik kn kc kQ fn fr fz tal R w) => c_redo1 h hm, fun Q2 w (h : RI L b n m cd Q ik kn kc kQ fn fr fz tal Q2 w) => d_redo1 h hm⟩
  · exact ⟨_, (L, b, n, m, cd, Q, ik, kn, kc, kQ, fn, fr, fz, tal), fun R w (h : CI L b n m cd Q ik kn kc kQ fn fr fz tal R w) => c_redo0 h (Nat.le_of_not_lt hm), fun Q2 w (h : RI L b n m cd Q ik kn kc kQ fn fr fz tal Q2 w) => d_redo0 h (Nat.le_of_not_lt hm)⟩
theorem p_home : PR mX8_home 3 mX9_home 3 [] := by
  intro s hs
  obtain ⟨L, b, n, m, cd, Q, ik, kn, kc, kQ, fn, fr, fz, tal⟩ := s
  have hs : SI L b n m cd Q kn kc kQ fn := hs
  exact ⟨_, (L, b, (0), (0), cd, Q, ik, kn, kc, kQ, fn, fr, fz, tal), fun R w (h : CI L b n m cd Q ik kn kc kQ fn fr fz tal R w) => c_home h, fun Q2 w (h : RI L b n m cd Q ik kn kc kQ fn fr fz tal Q2 w) => d_home h⟩
theorem p_at (x : Int32) (y : Int32) : PR mX8_at 4 mX9_at 5 [.int x, .int y] := by
  intro s hs
  obtain ⟨L, b, n, m, cd, Q, ik, kn, kc, kQ, fn, fr, fz, tal⟩ := s
  have hs : SI L b n m cd Q kn kc kQ fn := hs
  by_cases hb : x < 0 ∨ nI 8 ≤ x ∨ y < 0 ∨ nI 5 < y
  · exact ⟨_, (L, b, n, m, cd, Q, ik, kn, kc, kQ, fn, fr, fz, tal), fun R w (h : CI L b n m cd Q ik kn kc kQ fn fr fz tal R w) => c_at0 h hb, fun Q2 w (h : RI L b n m cd Q ik kn kc kQ fn fr fz tal Q2 w) => d_at0 h hb⟩
  · obtain ⟨d, hd, rfl⟩ := (i32_in x 8 (by decide)).resolve_left (fun z => hb (z.elim Or.inl (fun q => Or.inr (Or.inl q))))
    obtain ⟨e, he, rfl⟩ := (i32_in y 6 (by decide)).resolve_left (fun z => hb (z.elim (fun q => Or.inr (Or.inr (Or.inl q))) (fun q => Or.inr (Or.inr (Or.inr (le_lt1 (by decide) q))))))
    match e, he with
    | 0, _ =>
      exact ⟨_, (L, b, n, m, cd, Q, ik, kn, kc, kQ, fn, fr, fz, tal), fun R w (h : CI L b n m cd Q ik kn kc kQ fn fr fz tal R w) => c_at_0 h hd, fun Q2 w (h : RI L b n m cd Q ik kn kc kQ fn fr fz tal Q2 w) => d_at_0 h hd⟩
    | 1, _ =>
      exact ⟨_, (L, b, n, m, cd, Q, ik, kn, kc, kQ, fn, fr, fz, tal), fun R w (h : CI L b n m cd Q ik kn kc kQ fn fr fz tal R w) => c_at_1 h hd, fun Q2 w (h : RI L b n m cd Q ik kn kc kQ fn fr fz tal Q2 w) => d_at_1 h hd⟩
    | 2, _ =>
      exact ⟨_, (L, b, n, m, cd, Q, ik, kn, kc, kQ, fn, fr, fz, tal), fun R w (h : CI L b n m cd Q ik kn kc kQ fn fr fz tal R w) => c_at_2 h hd, fun Q2 w (h : RI L b n m cd Q ik kn kc kQ fn fr fz tal Q2 w) => d_at_2 h hd⟩
    | 3, _ =>
      exact ⟨_, (L, b, n, m, cd, Q, ik, kn, kc, kQ, fn, fr, fz, tal), fun R w (h : CI L b n m cd Q ik kn kc kQ fn fr fz tal R w) => c_at_3 h hd, fun Q2 w (h : RI L b n m cd Q ik kn kc kQ fn fr fz tal Q2 w) => d_at_3 h hd⟩
    | 4, _ =>
      exact ⟨_, (L, b, n, m, cd, Q, ik, kn, kc, kQ, fn, fr, fz, tal), fun R w (h : CI L b n m cd Q ik kn kc kQ fn fr fz tal R w) => c_at_4 h hd, fun Q2 w (h : RI L b n m cd Q ik kn kc kQ fn fr fz tal Q2 w) => d_at_4 h hd⟩
    | 5, _ =>
      exact ⟨_, (L, b, n, m, cd, Q, ik, kn, kc, kQ, fn, fr, fz, tal), fun R w (h : CI L b n m cd Q ik kn kc kQ fn fr fz tal R w) => c_at_5 h hd, fun Q2 w (h : RI L b n m cd Q ik kn kc kQ fn fr fz tal Q2 w) => d_at_5 h hd⟩
theorem p_on (x : Int32) : PR mX8_on 4 mX9_on 5 [.int x] := by
  intro s hs
  obtain ⟨L, b, n, m, cd, Q, ik, kn, kc, kQ, fn, fr, fz, tal⟩ := s
  have hs : SI L b n m cd Q kn kc kQ fn := hs
  rcases i32_in x 16 (by decide) with h1 | ⟨i, hi, rfl⟩
  · exact ⟨_, (L, b, n, m, cd, Q, ik, kn, kc, kQ, fn, fr, fz, tal), fun R w (h : CI L b n m cd Q ik kn kc kQ fn fr fz tal R w) => c_on0 h h1, fun Q2 w (h : RI L b n m cd Q ik kn kc kQ fn fr fz tal Q2 w) => d_on0 h h1⟩
  · exact ⟨_, (L, b, n, m, cd, Q, ik, kn, kc, kQ, fn, fr, fz, tal), fun R w (h : CI L b n m cd Q ik kn kc kQ fn fr fz tal R w) => c_on1 h hi, fun Q2 w (h : RI L b n m cd Q ik kn kc kQ fn fr fz tal Q2 w) => d_on1 h hi⟩
theorem p_meant (x : Int32) : PR mX8_meant 5 mX9_meant 6 [.int x] := by
  intro s hs
  obtain ⟨L, b, n, m, cd, Q, ik, kn, kc, kQ, fn, fr, fz, tal⟩ := s
  have hs : SI L b n m cd Q kn kc kQ fn := hs
  rcases i32_in x 9 (by decide) with h1 | ⟨i, hi, rfl⟩
  · exact ⟨_, (L, b, n, m, cd, Q, ik, kn, kc, kQ, fn, fr, fz, tal), fun R w (h : CI L b n m cd Q ik kn kc kQ fn fr fz tal R w) => c_meant0 h h1, fun Q2 w (h : RI L b n m cd Q ik kn kc kQ fn fr fz tal Q2 w) => d_meant0 h h1⟩
  · exact ⟨_, (L, b, n, m, cd, Q, ik, kn, kc, kQ, fn, fr, fz, tal), fun R w (h : CI L b n m cd Q ik kn kc kQ fn fr fz tal R w) => c_meant1 h hi, fun Q2 w (h : RI L b n m cd Q ik kn kc kQ fn fr fz tal Q2 w) => d_meant1 h hi⟩
theorem p_danced (x : Int32) : PR mX8_danced 3 mX9_danced 3 [.int x] := by
  intro s hs
  obtain ⟨L, b, n, m, cd, Q, ik, kn, kc, kQ, fn, fr, fz, tal⟩ := s
  have hs : SI L b n m cd Q kn kc kQ fn := hs
  rcases i32_in x 12 (by decide) with h1 | ⟨i, hi, rfl⟩
  · exact ⟨_, (L, b, n, m, cd, Q, ik, kn, kc, kQ, fn, fr, fz, tal), fun R w (h : CI L b n m cd Q ik kn kc kQ fn fr fz tal R w) => c_danced0 h h1, fun Q2 w (h : RI L b n m cd Q ik kn kc kQ fn fr fz tal Q2 w) => d_danced0 h h1⟩
  · exact ⟨_, (L, b, n, m, cd, Q, ik, kn, kc, kQ, fn, fr, fz, tal), fun R w (h : CI L b n m cd Q ik kn kc kQ fn fr fz tal R w) => c_danced1 h hi, fun Q2 w (h : RI L b n m cd Q ik kn kc kQ fn fr fz tal Q2 w) => d_danced1 h hi⟩
theorem p_count (x : Int32) : PR mX8_count 4 mX9_count 5 [.int x] := by
  intro s hs
  obtain ⟨L, b, n, m, cd, Q, ik, kn, kc, kQ, fn, fr, fz, tal⟩ := s
  have hs : SI L b n m cd Q kn kc kQ fn := hs
  by_cases h1 : x.toInt < 0 ∨ 2 < x.toInt
  · exact ⟨_, (L, b, n, m, cd, Q, ik, kn, kc, kQ, fn, fr, fz, tal), fun R w (h : CI L b n m cd Q ik kn kc kQ fn fr fz tal R w) => c_count_x h h1, fun Q2 w (h : RI L b n m cd Q ik kn kc kQ fn fr fz tal Q2 w) => d_count_x h h1⟩
  · have h0 : ¬ x < 0 := fun z => h1 (Or.inl (by rw [Int32.lt_iff_toInt_lt] at z; exact z))
    obtain ⟨i, hi, rfl⟩ := i32_nn h0
    rw [nI_toInt hi] at h1
    have hi3 : i < 3 := by omega
    match i, hi3 with
    | 0, _ =>
      exact ⟨_, (L, b, n, m, cd, Q, ik, kn, kc, kQ, fn, fr, fz, tal), fun R w (h : CI L b n m cd Q ik kn kc kQ fn fr fz tal R w) => c_count_0 h, fun Q2 w (h : RI L b n m cd Q ik kn kc kQ fn fr fz tal Q2 w) => d_count_0 h⟩
    | 1, _ =>
      exact ⟨_, (L, b, n, m, cd, Q, ik, kn, kc, kQ, fn, fr, fz, tal), fun R w (h : CI L b n m cd Q ik kn kc kQ fn fr fz tal R w) => c_count_1 h, fun Q2 w (h : RI L b n m cd Q ik kn kc kQ fn fr fz tal Q2 w) => d_count_1 h⟩
    | 2, _ =>
      exact ⟨_, (L, b, n, m, cd, Q, ik, kn, kc, kQ, fn, fr, fz, tal), fun R w (h : CI L b n m cd Q ik kn kc kQ fn fr fz tal R w) => c_count_2 h, fun Q2 w (h : RI L b n m cd Q ik kn kc kQ fn fr fz tal Q2 w) => d_count_2 h⟩
theorem p_way (x : Int32) : PR mX8_way 7 mX9_way 9 [.int x] := by
  intro s hs
  obtain ⟨L, b, n, m, cd, Q, ik, kn, kc, kQ, fn, fr, fz, tal⟩ := s
  have hs : SI L b n m cd Q kn kc kQ fn := hs
  rcases i32_m1 x with h1 | rfl | ⟨i, hi, rfl⟩
  · exact ⟨_, (L, b, n, m, cd, Q, ik, kn, kc, kQ, fn, fr, fz, tal), fun R w (h : CI L b n m cd Q ik kn kc kQ fn fr fz tal R w) => c_way_b h h1, fun Q2 w (h : RI L b n m cd Q ik kn kc kQ fn fr fz tal Q2 w) => d_way_b h h1⟩
  · exact ⟨_, (L, b, n, m, cd, Q, ik, kn, kc, kQ, fn, fr, fz, tal), fun R w (h : CI L b n m cd Q ik kn kc kQ fn fr fz tal R w) => c_way_m nxi h, fun Q2 w (h : RI L b n m cd Q ik kn kc kQ fn fr fz tal Q2 w) => d_way_m h⟩
  · by_cases h0 : (wayB nxC homeP (Q n)).1 = 0
    · by_cases h2 : i < (wayB nxC homeP (Q n)).2.length
      · exact ⟨nI ((wayB nxC homeP (Q n)).2.getD i 0), (L, b, n, m, cd, Q, ik, kn, kc, kQ, fn, fr, fz, tal), fun R w (h : CI L b n m cd Q ik kn kc kQ fn fr fz tal R w) => c_way_1 nxi h h0 h2 hi, fun Q2 w (h : RI L b n m cd Q ik kn kc kQ fn fr fz tal Q2 w) => by
          have z := d_way_i h hi
          rw [show wayI (wayB nxC homeP (Q n)) i = nI ((wayB nxC homeP (Q n)).2.getD i 0) by unfold wayI; rw [if_pos h0, if_pos h2]] at z
          exact z⟩
      · exact ⟨-2, (L, b, n, m, cd, Q, ik, kn, kc, kQ, fn, fr, fz, tal), fun R w (h : CI L b n m cd Q ik kn kc kQ fn fr fz tal R w) => c_way_2 nxi h h0 (Nat.le_of_not_lt h2) hi, fun Q2 w (h : RI L b n m cd Q ik kn kc kQ fn fr fz tal Q2 w) => by
          have z := d_way_i h hi
          rw [show wayI (wayB nxC homeP (Q n)) i = -2 by unfold wayI; rw [if_pos h0, if_neg h2]] at z
          exact z⟩
    · exact ⟨wansI (wayB nxC homeP (Q n)), (L, b, n, m, cd, Q, ik, kn, kc, kQ, fn, fr, fz, tal), fun R w (h : CI L b n m cd Q ik kn kc kQ fn fr fz tal R w) => c_way_n nxi h hi h0, fun Q2 w (h : RI L b n m cd Q ik kn kc kQ fn fr fz tal Q2 w) => by
        have z := d_way_i h hi
        rw [show wayI (wayB nxC homeP (Q n)) i = wansI (wayB nxC homeP (Q n)) by unfold wayI; rw [if_neg h0]] at z
        exact z⟩
theorem p_round : PR mX8_round 10 mX9_round 10 [] := by
  intro s hs
  obtain ⟨L, b, n, m, cd, Q, ik, kn, kc, kQ, fn, fr, fz, tal⟩ := s
  have hs : SI L b n m cd Q kn kc kQ fn := hs
  have hL : L ≤ 120 := hs.1
  cases ht : (tx b L).1 with
  | some f =>
    exact ⟨_, ((0), b, n, m, cd, Q, ik, kn, kc, kQ, fn, fr, fz, tal), fun R w (h : CI L b n m cd Q ik kn kc kQ fn fr fz tal R w) => c_round_f h ht (tx_lt hL ht), fun Q2 w (h : RI L b n m cd Q ik kn kc kQ fn fr fz tal Q2 w) => d_round_f h ht (tx_lt hL ht)⟩
  | none =>
    exact ⟨_, ((0), b, n, m, cd, Q, ik, kn, kc, kQ, fn, fr, fz, tal), fun R w (h : CI L b n m cd Q ik kn kc kQ fn fr fz tal R w) => c_round_1 nxv h ht, fun Q2 w (h : RI L b n m cd Q ik kn kc kQ fn fr fz tal Q2 w) => d_round_1 h ht⟩
theorem p_alike (x : Int32) : PR mX8_alike 4 mX9_alike 5 [.int x] := by
  intro s hs
  obtain ⟨L, b, n, m, cd, Q, ik, kn, kc, kQ, fn, fr, fz, tal⟩ := s
  have hs : SI L b n m cd Q kn kc kQ fn := hs
  rcases i32_in x 2 (by decide) with h1 | ⟨i, hi, rfl⟩
  · have h1 : x < 0 ∨ nI 1 < x := h1.elim Or.inl (fun z => Or.inr (le_lt1 (by decide) z))
    exact ⟨_, (L, b, n, m, cd, Q, ik, kn, kc, kQ, fn, fr, fz, tal), fun R w (h : CI L b n m cd Q ik kn kc kQ fn fr fz tal R w) => c_alike0 h h1, fun Q2 w (h : RI L b n m cd Q ik kn kc kQ fn fr fz tal Q2 w) => d_alike0 h h1⟩
  · cases ik with
    | false =>
      exact ⟨_, (L, b, n, m, cd, Q, (false), kn, kc, kQ, fn, fr, fz, tal), fun R w (h : CI L b n m cd Q (false) kn kc kQ fn fr fz tal R w) => c_alike1 h hi, fun Q2 w (h : RI L b n m cd Q (false) kn kc kQ fn fr fz tal Q2 w) => d_alike1 h hi⟩
    | true =>
      exact ⟨_, (L, b, n, m, cd, Q, (true), kn, kc, kQ, fn, fr, fz, tal), fun R w (h : CI L b n m cd Q (true) kn kc kQ fn fr fz tal R w) => c_alike2 h hi, fun Q2 w (h : RI L b n m cd Q (true) kn kc kQ fn fr fz tal Q2 w) => d_alike2 h hi⟩
theorem p_squares (x : Int32) : PR mX8_squares 5 mX9_squares 5 [.int x] := by
  intro s hs
  obtain ⟨L, b, n, m, cd, Q, ik, kn, kc, kQ, fn, fr, fz, tal⟩ := s
  have hs : SI L b n m cd Q kn kc kQ fn := hs
  rcases i32_in x 3 (by decide) with h1 | ⟨i, hi, rfl⟩
  · have h1 : x < 0 ∨ nI 2 < x := h1.elim Or.inl (fun z => Or.inr (le_lt1 (by decide) z))
    exact ⟨_, (L, b, n, m, cd, Q, ik, kn, kc, kQ, fn, fr, fz, tal), fun R w (h : CI L b n m cd Q ik kn kc kQ fn fr fz tal R w) => c_squares0 h h1, fun Q2 w (h : RI L b n m cd Q ik kn kc kQ fn fr fz tal Q2 w) => d_squares0 h h1⟩
  · exact ⟨_, (L, b, n, m, cd, Q, ik, kn, kc, kQ, fn, fr, fz, tal), fun R w (h : CI L b n m cd Q ik kn kc kQ fn fr fz tal R w) => c_squares1 h hi, fun Q2 w (h : RI L b n m cd Q ik kn kc kQ fn fr fz tal Q2 w) => d_squares1 h hi⟩
theorem p_text (x : Int32) : PR mX8_text 9 mX9_text 9 [.int x] := by
  intro s hs
  obtain ⟨L, b, n, m, cd, Q, ik, kn, kc, kQ, fn, fr, fz, tal⟩ := s
  have hs : SI L b n m cd Q kn kc kQ fn := hs
  rcases i32_m1 x with h1 | rfl | ⟨i, hi, rfl⟩
  · exact ⟨_, (L, b, n, m, cd, Q, ik, kn, kc, kQ, fn, fr, fz, tal), fun R w (h : CI L b n m cd Q ik kn kc kQ fn fr fz tal R w) => c_text_b h h1, fun Q2 w (h : RI L b n m cd Q ik kn kc kQ fn fr fz tal Q2 w) => d_text_b h h1⟩
  · exact ⟨_, (L, b, n, m, cd, Q, ik, kn, kc, kQ, fn, fr, fz, tal), fun R w (h : CI L b n m cd Q ik kn kc kQ fn fr fz tal R w) => c_text_m h, fun Q2 w (h : RI L b n m cd Q ik kn kc kQ fn fr fz tal Q2 w) => d_text_m h⟩
  · by_cases h2 : i < (txt cd n).length
    · exact ⟨_, (L, b, n, m, cd, Q, ik, kn, kc, kQ, fn, fr, fz, tal), fun R w (h : CI L b n m cd Q ik kn kc kQ fn fr fz tal R w) => c_text_1 h h2, fun Q2 w (h : RI L b n m cd Q ik kn kc kQ fn fr fz tal Q2 w) => d_text_1 h h2⟩
    · exact ⟨_, (L, b, n, m, cd, Q, ik, kn, kc, kQ, fn, fr, fz, tal), fun R w (h : CI L b n m cd Q ik kn kc kQ fn fr fz tal R w) => c_text_2 h (Nat.le_of_not_lt h2) hi, fun Q2 w (h : RI L b n m cd Q ik kn kc kQ fn fr fz tal Q2 w) => d_text_2 h (Nat.le_of_not_lt h2) hi⟩
theorem p_picture (x : Int32) : PR mX8_picture 4 mX9_picture 6 [.int x] := by
  intro s hs
  obtain ⟨L, b, n, m, cd, Q, ik, kn, kc, kQ, fn, fr, fz, tal⟩ := s
  have hs : SI L b n m cd Q kn kc kQ fn := hs
  rcases i32_m1 x with h1 | rfl | ⟨i, hi, rfl⟩
  · exact ⟨_, (L, b, n, m, cd, Q, ik, kn, kc, kQ, fn, fr, fz, tal), fun R w (h : CI L b n m cd Q ik kn kc kQ fn fr fz tal R w) => c_pic_b h h1, fun Q2 w (h : RI L b n m cd Q ik kn kc kQ fn fr fz tal Q2 w) => d_pic_b h h1⟩
  · exact ⟨_, (L, b, n, m, cd, Q, ik, kn, kc, kQ, fn, fr, fz, tal), fun R w (h : CI L b n m cd Q ik kn kc kQ fn fr fz tal R w) => c_pic_m h, fun Q2 w (h : RI L b n m cd Q ik kn kc kQ fn fr fz tal Q2 w) => d_pic_m h⟩
  · by_cases h2 : i < 36
    · by_cases h8 : i % 9 = 8
      · exact ⟨_, (L, b, n, m, cd, Q, ik, kn, kc, kQ, fn, fr, fz, tal), fun R w (h : CI L b n m cd Q ik kn kc kQ fn fr fz tal R w) => c_pic_n h h2 h8, fun Q2 w (h : RI L b n m cd Q ik kn kc kQ fn fr fz tal Q2 w) => d_pic_n h h2 h8⟩
      · exact ⟨_, (L, b, n, m, cd, Q, ik, kn, kc, kQ, fn, fr, fz, tal), fun R w (h : CI L b n m cd Q ik kn kc kQ fn fr fz tal R w) => c_pic_1 h h2 h8, fun Q2 w (h : RI L b n m cd Q ik kn kc kQ fn fr fz tal Q2 w) => d_pic_1 h h2 h8⟩
    · exact ⟨_, (L, b, n, m, cd, Q, ik, kn, kc, kQ, fn, fr, fz, tal), fun R w (h : CI L b n m cd Q ik kn kc kQ fn fr fz tal R w) => c_pic_2 h (Nat.le_of_not_lt h2) hi, fun Q2 w (h : RI L b n m cd Q ik kn kc kQ fn fr fz tal Q2 w) => d_pic_2 h (Nat.le_of_not_lt h2) hi⟩
theorem p_call (x : Int32) : PR mX8_call 3 mX9_call 3 [.int x] := by
  intro s hs
  obtain ⟨L, b, n, m, cd, Q, ik, kn, kc, kQ, fn, fr, fz, tal⟩ := s
  have hs : SI L b n m cd Q kn kc kQ fn := hs
  rcases i32_m1 x with h1 | rfl | ⟨i, hi, rfl⟩
  · exact ⟨_, (L, b, n, m, cd, Q, ik, kn, kc, kQ, fn, fr, fz, tal), fun R w (h : CI L b n m cd Q ik kn kc kQ fn fr fz tal R w) => c_call_b h h1, fun Q2 w (h : RI L b n m cd Q ik kn kc kQ fn fr fz tal Q2 w) => d_call_b h h1⟩
  · exact ⟨_, (L, b, n, m, cd, Q, ik, kn, kc, kQ, fn, fr, fz, tal), fun R w (h : CI L b n m cd Q ik kn kc kQ fn fr fz tal R w) => c_call_m h, fun Q2 w (h : RI L b n m cd Q ik kn kc kQ fn fr fz tal Q2 w) => d_call_m h⟩
  · by_cases h2 : i < n
    · exact ⟨_, (L, b, n, m, cd, Q, ik, kn, kc, kQ, fn, fr, fz, tal), fun R w (h : CI L b n m cd Q ik kn kc kQ fn fr fz tal R w) => c_call_1 h h2, fun Q2 w (h : RI L b n m cd Q ik kn kc kQ fn fr fz tal Q2 w) => d_call_1 h h2⟩
    · exact ⟨_, (L, b, n, m, cd, Q, ik, kn, kc, kQ, fn, fr, fz, tal), fun R w (h : CI L b n m cd Q ik kn kc kQ fn fr fz tal R w) => c_call_2 h (Nat.le_of_not_lt h2) hi, fun Q2 w (h : RI L b n m cd Q ik kn kc kQ fn fr fz tal Q2 w) => d_call_2 h (Nat.le_of_not_lt h2) hi⟩
theorem p_image : PR mX8_image 3 mX9_image 3 [] := by
  intro s hs
  obtain ⟨L, b, n, m, cd, Q, ik, kn, kc, kQ, fn, fr, fz, tal⟩ := s
  have hs : SI L b n m cd Q kn kc kQ fn := hs
  exact ⟨_, (L, b, n, m, cd, Q, (true), (n), (cd), (Q), fn, fr, fz, tal), fun R w (h : CI L b n m cd Q ik kn kc kQ fn fr fz tal R w) => c_image h, fun Q2 w (h : RI L b n m cd Q ik kn kc kQ fn fr fz tal Q2 w) => d_image h⟩
theorem p_back : PR mX8_back 3 mX9_back 3 [] := by
  intro s hs
  obtain ⟨L, b, n, m, cd, Q, ik, kn, kc, kQ, fn, fr, fz, tal⟩ := s
  have hs : SI L b n m cd Q kn kc kQ fn := hs
  cases ik with
  | false =>
    exact ⟨_, (L, b, n, m, cd, Q, (false), kn, kc, kQ, fn, fr, fz, tal), fun R w (h : CI L b n m cd Q (false) kn kc kQ fn fr fz tal R w) => c_back0 h, fun Q2 w (h : RI L b n m cd Q (false) kn kc kQ fn fr fz tal Q2 w) => d_back0 h⟩
  | true =>
    exact ⟨_, (L, b, (kn), (kn), (kc), (kQ), (true), kn, kc, kQ, fn, fr, fz, tal), fun R w (h : CI L b n m cd Q (true) kn kc kQ fn fr fz tal R w) => c_back1 h, fun Q2 w (h : RI L b n m cd Q (true) kn kc kQ fn fr fz tal Q2 w) => d_back1 h⟩
