/-! ===== squares turned: the class's and the reference's numbers; orbits ===== -/
def pm (r : Bool) (e : Nat) : Nat := match r with
  | true => (e + 6) % 8
  | false => e
def rotC (c : Nat) : Nat := 4 * (c % 4) + (3 - c / 4)
def tC (q : Int64) (r : Bool) (e : Nat) : Nat := rotC (sqc q (pm r e))
def tF (q : Int64) (r : Bool) (e : Nat) : Nat := (sqf q (pm r e) + 3) % 4
def orN (g : Nat → Int64) : Nat → Int64
  | 0 => 0
  | n + 1 => orN g n ||| g n
theorem orN_ext {g h : Nat → Int64} : ∀ n, (∀ j, j < n → g j = h j) → orN g n = orN h n
  | 0, _ => rfl
  | n + 1, e => by
    unfold orN
    rw [orN_ext n (fun j hj => e j (by omega)), e n (by omega)]
theorem orN_sh {g h : Nat → Int64} (e : ∀ j, j < 8 → h ((j + 2) % 8) = g j) : orN g 8 = orN h 8 := by
  have e0 : h 2 = g 0 := e 0 (by decide)
  have e1 : h 3 = g 1 := e 1 (by decide)
  have e2 : h 4 = g 2 := e 2 (by decide)
  have e3 : h 5 = g 3 := e 3 (by decide)
  have e4 : h 6 = g 4 := e 4 (by decide)
  have e5 : h 7 = g 5 := e 5 (by decide)
  have e6 : h 0 = g 6 := e 6 (by decide)
  have e7 : h 1 = g 7 := e 7 (by decide)
  simp only [orN, e0, e1, e2, e3, e4, e5, e6, e7]
  generalize g 0 = a0
  generalize g 1 = a1
  generalize g 2 = a2
  generalize g 3 = a3
  generalize g 4 = a4
  generalize g 5 = a5
  generalize g 6 = a6
  generalize g 7 = a7
  ac_rfl
theorem orN_nm {g h : Nat → Int64} (r : Bool) (e : ∀ j, j < 8 → h (nm8 r j) = g j) : orN g 8 = orN h 8 := by
  cases r with
  | false => exact orN_ext 8 (fun j hj => (e j hj).symm)
  | true => exact orN_sh e
theorem pm_nm (r : Bool) {j : Nat} (hj : j < 8) : pm r (nm8 r j) = j ∧ nm8 r j < 8 := by
  cases r with
  | false => exact ⟨rfl, hj⟩
  | true => exact ⟨by show ((j + 2) % 8 + 6) % 8 = j; omega, Nat.mod_lt _ (by decide)⟩
theorem pm_lt (r : Bool) {j : Nat} (hj : j < 8) : pm r j < 8 := by
  cases r with
  | false => exact hj
  | true => exact Nat.mod_lt _ (by decide)
theorem tuI_or (q : Int64) (r : Bool) : ∀ n, tuI q r n = orN (fun d => (nI (rotC (sqc q d)) + nI 16 * nI ((sqf q d + 3) % 4)).toInt64 <<< ((nI 6 * nI (nm8 r d)).toInt64 &&& 63)) n
  | 0 => rfl
  | n + 1 => by
    unfold tuI orN
    rw [tuI_or q r n]
    rfl
theorem pkI_or (a b : Nat → Int32) : ∀ n, pkI a b n = orN (fun d => (a d + nI 16 * b d).toInt64 <<< ((nI 6 * nI d).toInt64 &&& 63)) n
  | 0 => rfl
  | n + 1 => by
    unfold pkI orN
    rw [pkI_or a b n]
theorem pkR_or (a b : Nat → Int32) : ∀ n, pkR a b n = orN (fun d => (nI 4 * a d + b d).toInt64 <<< ((nI (6 * d)).toInt64 &&& 63)) n
  | 0 => rfl
  | n + 1 => by
    unfold pkR orN
    rw [pkR_or a b n]
theorem tu_pk (q : Int64) (r : Bool) : tuI q r 8 = pkI (fun j => nI (tC q r j)) (fun j => nI (tF q r j)) 8 := by
  rw [tuI_or, pkI_or]
  refine orN_nm r (fun j hj => ?_)
  unfold tC tF
  rw [(pm_nm r hj).1]
theorem rotC_lt {c : Nat} (h : c < 16) : rotC c < 16 := by unfold rotC; omega
theorem tu_val (q : Int64) (r : Bool) : Val (tC q r) (tF q r) := fun j _ => ⟨rotC_lt (sqc_lt q _), Nat.mod_lt _ (by decide)⟩
theorem tu_c (q : Int64) (r : Bool) {j : Nat} (hj : j < 8) : sqc (tuI q r 8) j = tC q r j := by rw [tu_pk]; exact sqc_pk (tu_val q r) hj
theorem tu_f (q : Int64) (r : Bool) {j : Nat} (hj : j < 8) : sqf (tuI q r 8) j = tF q r j := by rw [tu_pk]; exact sqf_pk (tu_val q r) hj
theorem rotC_inj {a b : Nat} (ha : a < 16) (hb : b < 16) (h : rotC a = rotC b) : a = b := by unfold rotC at h; omega
theorem pm_inj {r : Bool} {i j : Nat} (hi : i < 8) (hj : j < 8) (h : pm r i = pm r j) : i = j := by
  cases r with
  | false => exact h
  | true =>
    have h : (i + 6) % 8 = (j + 6) % 8 := h
    omega
theorem tu_V {q : Int64} (r : Bool) (hq : Vq q) : Vq (tuI q r 8) := by
  refine ⟨fun i hi j hj e => ?_, ?_⟩
  · rw [tu_c q r hi, tu_c q r hj] at e
    exact pm_inj hi hj (hq.1 _ (pm_lt r hi) _ (pm_lt r hj) (rotC_inj (sqc_lt q _) (sqc_lt q _) e))
  · rw [pkI_ext 8 (fun j hj => ⟨congrArg nI (tu_c q r hj), congrArg nI (tu_f q r hj)⟩)]
    exact tu_pk q r
def tuR (q : Int64) (r : Bool) : Nat → Int64
  | 0 => 0
  | n + 1 => tuR q r n ||| ((nI (4 * (4 * (rqn q n / 4 % 4) + 3 - rqn q n / 16) + (rqn q n + 3) % 4)).toInt64 <<< ((nI (6 * nm8 r n)).toInt64 &&& 63))
theorem tuR_or (q : Int64) (r : Bool) : ∀ n, n ≤ 8 → tuR (bt q) r n = orN (fun d => (nI (4 * rotC (sqc q d) + (sqf q d + 3) % 4)).toInt64 <<< ((nI (6 * nm8 r d)).toInt64 &&& 63)) n
  | 0, _ => rfl
  | n + 1, h => by
    unfold tuR orN
    rw [tuR_or q r n (by omega)]
    have e : rqn (bt q) n = 4 * sqc q n + sqf q n := rqn_pk (Val_q q) (by omega)
    have h1 := sqc_lt q n
    have h2 := sqf_lt q n
    have e2 : 4 * (4 * (rqn (bt q) n / 4 % 4) + 3 - rqn (bt q) n / 16) + (rqn (bt q) n + 3) % 4 = 4 * rotC (sqc q n) + (sqf q n + 3) % 4 := by
      rw [e]
      unfold rotC
      omega
    rw [e2]
theorem tu_bt (q : Int64) (r : Bool) : tuR (bt q) r 8 = bt (tuI q r 8) := by
  unfold bt
  rw [pkR_ext 8 (fun j hj => ⟨congrArg nI (tu_c q r hj), congrArg nI (tu_f q r hj)⟩)]
  show tuR (bt q) r 8 = _
  rw [tuR_or q r 8 (Nat.le_refl _), pkR_or]
  refine orN_nm r (fun j hj => ?_)
  unfold tC tF
  rw [(pm_nm r hj).1, pk_mul, nI_add]
theorem vq_ext {q q' : Int64} (h : Vq q) (h' : Vq q') (e : ∀ j, j < 8 → sqc q j = sqc q' j ∧ sqf q j = sqf q' j) : q = q' := by
  rw [h.2, h'.2]
  exact pkI_ext 8 (fun j hj => ⟨congrArg nI (e j hj).1, congrArg nI (e j hj).2⟩)
def itr {α : Type} (f : α → α) : Nat → α → α
  | 0, x => x
  | n + 1, x => f (itr f n x)
theorem itr_add {α : Type} (f : α → α) (x : α) (m : Nat) : ∀ n, itr f n (itr f m x) = itr f (n + m) x
  | 0 => by rw [Nat.zero_add]; rfl
  | n + 1 => by
    rw [show n + 1 + m = (n + m) + 1 by omega]
    show f _ = f _
    rw [itr_add f x m n]
theorem itr_4 {α : Type} (f : α → α) {x : α} (h : itr f 4 x = x) (n : Nat) : itr f (n + 4) x = itr f n x := by rw [← itr_add, h]
theorem orb {α : Type} (f : α → α) {q q' : α} (h4 : itr f 4 q = q) (h4' : itr f 4 q' = q') {i j : Nat} (hi : i < 4) (hj : j < 4) (h : itr f i q = itr f j q') : ∃ k, k < 4 ∧ itr f k q = q' := by
  have h1 := congrArg (itr f (4 - j)) h
  rw [itr_add, itr_add, show 4 - j + j = 4 by omega, h4'] at h1
  by_cases e : 4 ≤ 4 - j + i
  · refine ⟨4 - j + i - 4, by omega, ?_⟩
    rw [← itr_4 f h4, show 4 - j + i - 4 + 4 = 4 - j + i by omega]
    exact h1
  · exact ⟨4 - j + i, by omega, h1⟩
def tu (r : Bool) (q : Int64) : Int64 := tuI q r 8
theorem rotC4 : ∀ c, c < 16 → rotC (rotC (rotC (rotC c))) = c := by decide +kernel
theorem pm4 (r : Bool) : ∀ j, j < 8 → pm r (pm r (pm r (pm r j))) = j := by cases r <;> decide +kernel
theorem tu4 {q : Int64} (r : Bool) (hq : Vq q) : itr (tu r) 4 q = q := by
  show tuI (tuI (tuI (tuI q r 8) r 8) r 8) r 8 = q
  have v1 := tu_V r hq
  have v2 := tu_V r v1
  have v3 := tu_V r v2
  refine vq_ext (tu_V r v3) hq (fun j hj => ?_)
  have p1 := pm_lt r hj
  have p2 := pm_lt r p1
  have p3 := pm_lt r p2
  constructor
  · rw [tu_c _ r hj]
    unfold tC
    rw [tu_c _ r p1]
    unfold tC
    rw [tu_c _ r p2]
    unfold tC
    rw [tu_c _ r p3]
    unfold tC
    rw [pm4 r j hj, rotC4 _ (sqc_lt q j)]
  · rw [tu_f _ r hj]
    unfold tF
    rw [tu_f _ r p1]
    unfold tF
    rw [tu_f _ r p2]
    unfold tF
    rw [tu_f _ r p3]
    unfold tF
    rw [pm4 r j hj]
    have := sqf_lt q j
    omega
theorem mn4 (a b c d : Int64) : ∀ m2 m3 m4, m2 = (if b < a then b else a) → m3 = (if c < m2 then c else m2) → m4 = (if d < m3 then d else m3) → (m4 = a ∨ m4 = b ∨ m4 = c ∨ m4 = d) ∧ m4 ≤ a ∧ m4 ≤ b ∧ m4 ≤ c ∧ m4 ≤ d := by
  intro m2 m3 m4 h2 h3 h4
  have k2 : (m2 = a ∨ m2 = b) ∧ m2 ≤ a ∧ m2 ≤ b := by
    subst h2
    simp only [Int64.lt_iff_toInt_lt, Int64.le_iff_toInt_le]
    split
    · exact ⟨Or.inr rfl, by omega, by omega⟩
    · exact ⟨Or.inl rfl, by omega, by omega⟩
  have k3 : (m3 = m2 ∨ m3 = c) ∧ m3 ≤ m2 ∧ m3 ≤ c := by
    subst h3
    simp only [Int64.lt_iff_toInt_lt, Int64.le_iff_toInt_le]
    split
    · exact ⟨Or.inr rfl, by omega, by omega⟩
    · exact ⟨Or.inl rfl, by omega, by omega⟩
  have k4 : (m4 = m3 ∨ m4 = d) ∧ m4 ≤ m3 ∧ m4 ≤ d := by
    subst h4
    simp only [Int64.lt_iff_toInt_lt, Int64.le_iff_toInt_le]
    split
    · exact ⟨Or.inr rfl, by omega, by omega⟩
    · exact ⟨Or.inl rfl, by omega, by omega⟩
  simp only [Int64.le_iff_toInt_le] at k2 k3 k4 ⊢
  refine ⟨?_, by omega, by omega, by omega, by omega⟩
  rcases k4.1 with e | e
  · rcases k3.1 with e2 | e2
    · rcases k2.1 with e3 | e3
      · exact Or.inl (by rw [e, e2, e3])
      · exact Or.inr (Or.inl (by rw [e, e2, e3]))
    · exact Or.inr (Or.inr (Or.inl (by rw [e, e2])))
  · exact Or.inr (Or.inr (Or.inr e))
theorem ls_min (q : Int64) (r : Bool) : (∃ i, i < 4 ∧ (lsI q r 3).2 = itr (tu r) i q) ∧ ∀ i, i < 4 → (lsI q r 3).2 ≤ itr (tu r) i q := by
  obtain ⟨h1, h2, h3, h4, h5⟩ := mn4 q (itr (tu r) 1 q) (itr (tu r) 2 q) (itr (tu r) 3 q) _ _ _ rfl rfl rfl
  have e : (lsI q r 3).2 = (if itr (tu r) 3 q < (if itr (tu r) 2 q < (if itr (tu r) 1 q < q then itr (tu r) 1 q else q) then itr (tu r) 2 q else (if itr (tu r) 1 q < q then itr (tu r) 1 q else q)) then itr (tu r) 3 q else (if itr (tu r) 2 q < (if itr (tu r) 1 q < q then itr (tu r) 1 q else q) then itr (tu r) 2 q else (if itr (tu r) 1 q < q then itr (tu r) 1 q else q))) := rfl
  rw [e]
  refine ⟨?_, fun i hi => ?_⟩
  · rcases h1 with h | h | h | h
    · exact ⟨0, by decide, h⟩
    · exact ⟨1, by decide, h⟩
    · exact ⟨2, by decide, h⟩
    · exact ⟨3, by decide, h⟩
  · match i, hi with
    | 0, _ => exact h2
    | 1, _ => exact h3
    | 2, _ => exact h4
    | 3, _ => exact h5
theorem ls_le {q q' : Int64} (r : Bool) (hq : Vq q) {k : Nat} (hk : k < 4) (h : itr (tu r) k q = q') : (lsI q r 3).2 ≤ (lsI q' r 3).2 := by
  obtain ⟨⟨j, hj, e⟩, -⟩ := ls_min q' r
  rw [e, ← h, itr_add]
  by_cases z : j + k < 4
  · exact (ls_min q r).2 _ z
  · rw [show j + k = j + k - 4 + 4 by omega, itr_4 _ (tu4 r hq)]
    exact (ls_min q r).2 _ (by omega)
theorem ls_key {q q' : Int64} (r : Bool) (hq : Vq q) (hq' : Vq q') : (lsI q r 3).2 = (lsI q' r 3).2 ↔ ∃ k, k < 4 ∧ itr (tu r) k q = q' := by
  constructor
  · intro h
    obtain ⟨⟨i, hi, e⟩, -⟩ := ls_min q r
    obtain ⟨⟨j, hj, e'⟩, -⟩ := ls_min q' r
    exact orb (tu r) (tu4 r hq) (tu4 r hq') hi hj (by rw [← e, ← e', h])
  · rintro ⟨k, hk, h⟩
    obtain ⟨k', hk', h'⟩ := orb (tu r) (tu4 r hq') (tu4 r hq) (i := 0) (j := k) (by decide) hk h.symm
    have h1 := ls_le r hq hk h
    have h2 := ls_le r hq' hk' h'
    exact Int64.le_antisymm h1 h2
theorem alk_none {now : Int64} {r : Bool} {q : Int64} : alk now r 4 0 q = none ↔ ¬ ∃ k, k < 4 ∧ itr (tu r) k q = now := by
  have e : alk now r 4 0 q = (if itr (tu r) 0 q = now then some 0 else if itr (tu r) 1 q = now then some 1 else if itr (tu r) 2 q = now then some 2 else if itr (tu r) 3 q = now then some 3 else none) := rfl
  rw [e]
  constructor
  · rintro h ⟨k, hk, hq⟩
    match k, hk with
    | 0, _ => rw [if_pos hq] at h; cases h
    | 1, _ =>
      rw [if_pos (c := itr (tu r) 1 q = now) hq] at h
      split at h <;> cases h
    | 2, _ =>
      rw [if_pos (c := itr (tu r) 2 q = now) hq] at h
      repeat' split at h
      all_goals cases h
    | 3, _ =>
      rw [if_pos (c := itr (tu r) 3 q = now) hq] at h
      repeat' split at h
      all_goals cases h
  · intro h
    rw [if_neg (fun z => h ⟨0, by decide, z⟩), if_neg (fun z => h ⟨1, by decide, z⟩), if_neg (fun z => h ⟨2, by decide, z⟩), if_neg (fun z => h ⟨3, by decide, z⟩)]
theorem alk_lt {now : Int64} {r : Bool} : ∀ (m k : Nat) (q : Int64) {e : Nat}, alk now r m k q = some e → e < k + m
  | 0, k, q, e, h => by cases h
  | m + 1, k, q, e, h => by
    unfold alk at h
    split at h
    · cases h; omega
    · have := alk_lt m (k + 1) _ h; omega
theorem alk_key {q q' : Int64} (s : Nat) (hs : ¬ s = 0) (hq : Vq q) (hq' : Vq q') : alk q' (decide (s = 1)) 4 0 q = none ↔ ¬ key s q = key s q' := by
  unfold key
  rw [if_neg hs, if_neg hs, ls_key _ hq hq']
  exact alk_none
theorem ul_amg (dp dq : Nat → Int64) (s : Nat) (x : Int64) : ∀ i, (amg x (ulS dp dq s i).1 (ulS dp dq s i).2 = true ↔ ∃ j, j < i ∧ key s (dp j) = x)
  | 0 => by
    constructor
    · intro h; cases h
    · rintro ⟨j, hj, -⟩; omega
  | i + 1 => by
    have ih := ul_amg dp dq s x i
    have ihk := ul_amg dp dq s (key s (dp i)) i
    have hext : ∀ (f : Nat → Int64) (v : Int64) (c n : Nat), n ≤ c → amg x (vp_updL f c v) n = amg x f n := by
      intro f v c n
      induction n with
      | zero => intro _; rfl
      | succ n ihn =>
        intro hn
        show (amg x _ n || _) = (amg x _ n || _)
        rw [ihn (by omega), pk_uLn (by omega)]
    unfold ulS
    cases ha : amg (key s (dp i)) (ulS dp dq s i).1 (ulS dp dq s i).2 with
    | true =>
      dsimp only
      rw [ih]
      constructor
      · rintro ⟨j, hj, e⟩; exact ⟨j, by omega, e⟩
      · rintro ⟨j, hj, e⟩
        by_cases z : j = i
        · subst z
          obtain ⟨j', h1, h2⟩ := ihk.mp ha
          exact ⟨j', h1, h2.trans e⟩
        · exact ⟨j, by omega, e⟩
    | false =>
      dsimp only
      show (amg x _ _ || decide (_ = x)) = true ↔ _
      rw [hext _ _ _ _ (Nat.le_refl _), pk_uLs, Bool.or_eq_true, ih, decide_eq_true_eq]
      constructor
      · rintro (⟨j, hj, e⟩ | e)
        · exact ⟨j, by omega, e⟩
        · exact ⟨i, by omega, e⟩
      · rintro ⟨j, hj, e⟩
        by_cases z : j = i
        · subst z; exact Or.inr e
        · exact Or.inl ⟨j, by omega, e⟩
/-- whether square k is new among those ahead of it, looked at up to j -/
def nwB (s : Nat) (Q : Nat → Int64) (k : Nat) : Nat → Bool
  | 0 => true
  | j + 1 => nwB s Q k j && !decide (key s (Q j) = key s (Q k))
theorem nwB_f {s : Nat} {Q : Nat → Int64} {k j : Nat} (h : nwB s Q k j = false) : ∀ m, nwB s Q k (j + m) = false
  | 0 => h
  | m + 1 => by
    show (nwB s Q k (j + m) && _) = false
    rw [nwB_f h m]
    rfl
theorem nwB_iff (s : Nat) (Q : Nat → Int64) (k : Nat) : ∀ j, (nwB s Q k j = false ↔ ∃ i, i < j ∧ key s (Q i) = key s (Q k))
  | 0 => ⟨fun h => (by cases h), fun ⟨i, h, _⟩ => absurd h (by omega)⟩
  | j + 1 => by
    show (nwB s Q k j && !decide (key s (Q j) = key s (Q k))) = false ↔ _
    rw [Bool.and_eq_false_iff, nwB_iff s Q k j, Bool.not_eq_false', decide_eq_true_eq]
    constructor
    · rintro (⟨i, hi, e⟩ | e)
      · exact ⟨i, by omega, e⟩
      · exact ⟨j, by omega, e⟩
    · rintro ⟨i, hi, e⟩
      by_cases z : i = j
      · subst z; exact Or.inr e
      · exact Or.inl ⟨i, by omega, e⟩
theorem ul_nw (Q dq : Nat → Int64) (s k : Nat) : (ulS Q dq s (k + 1)).2 = (ulS Q dq s k).2 + (if nwB s Q k k = true then 1 else 0) := by
  have h1 := ul_amg Q dq s (key s (Q k)) k
  have h2 := nwB_iff s Q k k
  conv => lhs; unfold ulS
  cases ha : amg (key s (Q k)) (ulS Q dq s k).1 (ulS Q dq s k).2 with
  | true =>
    rw [h2.mpr (h1.mp ha)]
    rfl
  | false =>
    cases hn : nwB s Q k k with
    | true => rfl
    | false =>
      have := h1.mpr (h2.mp hn)
      rw [ha] at this
      cases this
/-! ===== the reference: quarter, quarters, alike, squares ===== -/
theorem m_quarter (w : WD) {q : Int64} {r : Bool} : Sem mX9_quarter 1 0 0 [.ref 100, .long q, .int (bI r)] w (some (.long (tuR q r 8))) w := by
  refine sem_of (by decide) (Nat.le_of_ble_eq_true rfl) rfl ?_
  have L : ∀ (m i : Nat) (y7 y8 y9 y10 : Option Int32), i + m = 8 → Rn mX9_quarter 1 0 0 w (some (.long (tuR q r 8))) w 0 0 6 [some (.ref 100), some (.long q), none, some (.int (bI r)), some (.long (tuR q r i)), none, some (.int (nI i)), y7.map .int, y8.map .int, y9.map .int, y10.map .int] [] w := by
    intro m
    induction m with
    | zero =>
      intro i y7 y8 y9 y10 hi
      have : i = 8 := by omega
      subst this
      refine r_iload dX9_quarter_6 rfl ?_
      refine r_bipush (v := (nI 8)) dX9_quarter_8 (by decide) ?_
      refine r_icmp_geN 95 dX9_quarter_10 (by decide) (by omega) (by omega) (fun h10 => ?_) (fun h10 => ?_)
      · refine r_pc 95 rfl ?_
        refine r_lload dX9_quarter_95 rfl ?_
        exact r_lret dX9_quarter_97 rfl rfl rfl
      · exact absurd h10 (by omega)
    | succ m ih =>
      intro i y7 y8 y9 y10 hi
      have ih := ih (i + 1) (some (nI (rqn q i))) (some (nI (rqn q i / 4 % 4))) (some (nI (rqn q i / 16))) (some (nI (4 * (rqn q i / 4 % 4) + 3 - rqn q i / 16))) (by omega)
      have hc := rqn_lt q i
      have he := rqn_eq q i
      refine r_drop (ls' := [some (.ref 100), some (.long q), none, some (.int (bI r)), some (.long (tuR q r i)), none, some (.int (nI i)), none, none, none, none]) ⟨rfl, rfl, rfl, rfl, rfl, trivial⟩ ?_
      cases r with
      | true =>
        refine r_iload dX9_quarter_6 rfl ?_
        refine r_bipush (v := (nI 8)) dX9_quarter_8 (by decide) ?_
        refine r_icmp_geN 95 dX9_quarter_10 (by decide) (by omega) (by omega) (fun h10 => ?_) (fun h10 => ?_)
        · exact absurd h10 (by omega)
        · refine r_pc 13 rfl ?_
          refine r_lload_n dX9_quarter_13 rfl ?_
          refine r_bipush (v := (nI 6)) dX9_quarter_14 (by decide) ?_
          refine r_iload dX9_quarter_16 rfl ?_
          refine r_imulN dX9_quarter_18 ?_
          refine r_lshr dX9_quarter_19 ?_
          refine r_pc 20 rfl ?_
          refine r_l2i dX9_quarter_20 ?_
          refine r_bipush (v := (nI 63)) dX9_quarter_21 (by decide) ?_
          refine r_iand dX9_quarter_23 ?_
          refine r_topi _ he ?_
          refine r_istore (ls' := [_, _, _, _, _, _, _, _, _, _, _]) dX9_quarter_24 (by decide) rfl ?_
          refine r_iload dX9_quarter_26 rfl ?_
          refine r_pc 28 rfl ?_
          refine r_iconst (v := (nI 4)) dX9_quarter_28 (by decide) ?_
          refine r_idivN dX9_quarter_29 (by omega) (by decide) (by decide) ?_
          refine r_iconst (v := (nI 4)) dX9_quarter_30 (by decide) ?_
          refine r_iremN dX9_quarter_31 (by omega) (by decide) (by decide) ?_
          refine r_istore (ls' := [_, _, _, _, _, _, _, _, _, _, _]) dX9_quarter_32 (by decide) rfl ?_
          refine r_pc 34 rfl ?_
          refine r_iload dX9_quarter_34 rfl ?_
          refine r_bipush (v := (nI 16)) dX9_quarter_36 (by decide) ?_
          refine r_idivN dX9_quarter_38 (by omega) (by decide) (by decide) ?_
          refine r_istore (ls' := [_, _, _, _, _, _, _, _, _, _, _]) dX9_quarter_39 (by decide) rfl ?_
          refine r_iconst (v := (nI 4)) dX9_quarter_41 (by decide) ?_
          refine r_pc 42 rfl ?_
          refine r_iload dX9_quarter_42 rfl ?_
          refine r_imulN dX9_quarter_44 ?_
          refine r_iconst (v := (nI 3)) dX9_quarter_45 (by decide) ?_
          refine r_iaddN dX9_quarter_46 ?_
          refine r_iload dX9_quarter_47 rfl ?_
          refine r_pc 49 rfl ?_
          refine r_isubN dX9_quarter_49 (by omega) ?_
          refine r_istore (ls' := [_, _, _, _, _, _, _, _, _, _, _]) dX9_quarter_50 (by decide) rfl ?_
          refine r_lload dX9_quarter_52 rfl ?_
          refine r_iconst (v := (nI 4)) dX9_quarter_54 (by decide) ?_
          refine r_iload dX9_quarter_55 rfl ?_
          refine r_pc 57 rfl ?_
          refine r_imulN dX9_quarter_57 ?_
          refine r_iload dX9_quarter_58 rfl ?_
          refine r_iconst (v := (nI 3)) dX9_quarter_60 (by decide) ?_
          refine r_iaddN dX9_quarter_61 ?_
          refine r_iconst (v := (nI 4)) dX9_quarter_62 (by decide) ?_
          refine r_pc 63 rfl ?_
          refine r_iremN dX9_quarter_63 (by omega) (by decide) (by decide) ?_
          refine r_iaddN dX9_quarter_64 ?_
          refine r_i2l dX9_quarter_65 ?_
          refine r_bipush (v := (nI 6)) dX9_quarter_66 (by decide) ?_
          refine r_iload_n dX9_quarter_68 rfl ?_
          refine r_pc 69 rfl ?_
          refine r_if_eq 82 dX9_quarter_69 (by decide) (fun h69 => ?_) (fun h69 => ?_)
          · exact absurd h69 (by decide)
          · refine r_pc 72 rfl ?_
            refine r_iload dX9_quarter_72 rfl ?_
            refine r_iconst (v := (nI 2)) dX9_quarter_74 (by decide) ?_
            refine r_iaddN dX9_quarter_75 ?_
            refine r_bipush (v := (nI 8)) dX9_quarter_76 (by decide) ?_
            refine r_iremN dX9_quarter_78 (by omega) (by decide) (by decide) ?_
            refine r_pc 79 rfl ?_
            refine r_goto 84 dX9_quarter_79 (by decide) ?_
            refine r_imulN dX9_quarter_84 ?_
            refine r_lshl dX9_quarter_85 ?_
            refine r_lor dX9_quarter_86 ?_
            refine r_lstore (ls' := [_, _, _, _, _, _, _, _, _, _, _]) dX9_quarter_87 (by decide) rfl ?_
            refine r_pc 89 rfl ?_
            refine r_inc1 (ls' := [_, _, _, _, _, _, _, _, _, _, _]) dX9_quarter_89 (by decide) rfl rfl ?_
            refine r_goto 6 dX9_quarter_92 (by decide) ?_
            refine r_pc 6 rfl ?_
            exact ih
      | false =>
        refine r_iload dX9_quarter_6 rfl ?_
        refine r_bipush (v := (nI 8)) dX9_quarter_8 (by decide) ?_
        refine r_icmp_geN 95 dX9_quarter_10 (by decide) (by omega) (by omega) (fun h10 => ?_) (fun h10 => ?_)
        · exact absurd h10 (by omega)
        · refine r_pc 13 rfl ?_
          refine r_lload_n dX9_quarter_13 rfl ?_
          refine r_bipush (v := (nI 6)) dX9_quarter_14 (by decide) ?_
          refine r_iload dX9_quarter_16 rfl ?_
          refine r_imulN dX9_quarter_18 ?_
          refine r_lshr dX9_quarter_19 ?_
          refine r_pc 20 rfl ?_
          refine r_l2i dX9_quarter_20 ?_
          refine r_bipush (v := (nI 63)) dX9_quarter_21 (by decide) ?_
          refine r_iand dX9_quarter_23 ?_
          refine r_topi _ he ?_
          refine r_istore (ls' := [_, _, _, _, _, _, _, _, _, _, _]) dX9_quarter_24 (by decide) rfl ?_
          refine r_iload dX9_quarter_26 rfl ?_
          refine r_pc 28 rfl ?_
          refine r_iconst (v := (nI 4)) dX9_quarter_28 (by decide) ?_
          refine r_idivN dX9_quarter_29 (by omega) (by decide) (by decide) ?_
          refine r_iconst (v := (nI 4)) dX9_quarter_30 (by decide) ?_
          refine r_iremN dX9_quarter_31 (by omega) (by decide) (by decide) ?_
          refine r_istore (ls' := [_, _, _, _, _, _, _, _, _, _, _]) dX9_quarter_32 (by decide) rfl ?_
          refine r_pc 34 rfl ?_
          refine r_iload dX9_quarter_34 rfl ?_
          refine r_bipush (v := (nI 16)) dX9_quarter_36 (by decide) ?_
          refine r_idivN dX9_quarter_38 (by omega) (by decide) (by decide) ?_
          refine r_istore (ls' := [_, _, _, _, _, _, _, _, _, _, _]) dX9_quarter_39 (by decide) rfl ?_
          refine r_iconst (v := (nI 4)) dX9_quarter_41 (by decide) ?_
          refine r_pc 42 rfl ?_
          refine r_iload dX9_quarter_42 rfl ?_
          refine r_imulN dX9_quarter_44 ?_
          refine r_iconst (v := (nI 3)) dX9_quarter_45 (by decide) ?_
          refine r_iaddN dX9_quarter_46 ?_
          refine r_iload dX9_quarter_47 rfl ?_
          refine r_pc 49 rfl ?_
          refine r_isubN dX9_quarter_49 (by omega) ?_
          refine r_istore (ls' := [_, _, _, _, _, _, _, _, _, _, _]) dX9_quarter_50 (by decide) rfl ?_
          refine r_lload dX9_quarter_52 rfl ?_
          refine r_iconst (v := (nI 4)) dX9_quarter_54 (by decide) ?_
          refine r_iload dX9_quarter_55 rfl ?_
          refine r_pc 57 rfl ?_
          refine r_imulN dX9_quarter_57 ?_
          refine r_iload dX9_quarter_58 rfl ?_
          refine r_iconst (v := (nI 3)) dX9_quarter_60 (by decide) ?_
          refine r_iaddN dX9_quarter_61 ?_
          refine r_iconst (v := (nI 4)) dX9_quarter_62 (by decide) ?_
          refine r_pc 63 rfl ?_
          refine r_iremN dX9_quarter_63 (by omega) (by decide) (by decide) ?_
          refine r_iaddN dX9_quarter_64 ?_
          refine r_i2l dX9_quarter_65 ?_
          refine r_bipush (v := (nI 6)) dX9_quarter_66 (by decide) ?_
          refine r_iload_n dX9_quarter_68 rfl ?_
          refine r_pc 69 rfl ?_
          refine r_if_eq 82 dX9_quarter_69 (by decide) (fun h69 => ?_) (fun h69 => ?_)
          · refine r_pc 82 rfl ?_
            refine r_iload dX9_quarter_82 rfl ?_
            refine r_imulN dX9_quarter_84 ?_
            refine r_lshl dX9_quarter_85 ?_
            refine r_lor dX9_quarter_86 ?_
            refine r_lstore (ls' := [_, _, _, _, _, _, _, _, _, _, _]) dX9_quarter_87 (by decide) rfl ?_
            refine r_pc 89 rfl ?_
            refine r_inc1 (ls' := [_, _, _, _, _, _, _, _, _, _, _]) dX9_quarter_89 (by decide) rfl rfl ?_
            refine r_goto 6 dX9_quarter_92 (by decide) ?_
            refine r_pc 6 rfl ?_
            exact ih
          · exact absurd rfl h69
  refine r_lconst (v := 0) dX9_quarter_0 (by decide) ?_
  refine r_lstore (ls' := [_, _, _, _, _, _, _, _, _, _, _]) dX9_quarter_1 (by decide) rfl ?_
  refine r_iconst (v := (nI 0)) dX9_quarter_3 (by decide) ?_
  refine r_istore (ls' := [_, _, _, _, _, _, _, _, _, _, _]) dX9_quarter_4 (by decide) rfl ?_
  refine r_pc 6 rfl ?_
  exact L 8 0 none none none none (by omega)
section R10
variable {rc rf ro rt ru rm rg : Nat → Int32} {rp rq : Int32} {ry rl : Nat → Int32} {rn ra : Int32} {rw rk : Nat → Int64} {rx rz rd : Nat → Int32} {rM rU rK : Int32} {rT rR : Nat → Int32} {rL rN rA rF : Int32} {rC : Nat → Int64} {rO rB rY rP : Nat → Int32} {rb : Int32}
variable {R : List AE}
theorem m_quarters {q q' : Int64} {r : Bool} (hq : Vq q) (hq' : Vq q') : Sem mX9_quarters 2 0 0 [.ref 100, .long (bt q), .long (bt q'), .int (bI r)] (R, mW rc rf ro rt ru rm rg rp rq ry rl rn ra rw rk rx rz rd rM rU rK rT rR rL rN rA rF rC rO rB rY rP rb) (some (.int (stN (alk q' r 4 0 q)))) (R, mW rc rf ro rt ru rm rg rp rq ry rl rn ra rw rk rx rz rd rM rU rK rT rR rL rN rA rF rC rO rB rY rP rb) := by
  refine sem_of (by decide) (Nat.le_of_ble_eq_true rfl) rfl ?_
  generalize hw0 : (R, mW rc rf ro rt ru rm rg rp rq ry rl rn ra rw rk rx rz rd rM rU rK rT rR rL rN rA rF rC rO rB rY rP rb) = w0
  have Lp : ∀ (m i : Nat) (x : Int64), i + m = 4 → Vq x → Rn mX9_quarters 2 0 0 w0 (some (.int (stN (alk q' r m i x)))) (R, mW rc rf ro rt ru rm rg rp rq ry rl rn ra rw rk rx rz rd rM rU rK rT rR rL rN rA rF rC rO rB rY rP rb) 0 0 6 [some (.ref 100), some (.long (bt q)), none, some (.long (bt q')), none, some (.int (bI r)), some (.long (bt x)), none, some (.int (nI i))] [] (R, mW rc rf ro rt ru rm rg rp rq ry rl rn ra rw rk rx rz rd rM rU rK rT rR rL rN rA rF rC rO rB rY rP rb) := by
    intro m
    induction m with
    | zero =>
      intro i x hi hx
      refine r_iload dX9_quarters_6 rfl ?_
      refine r_iconst (v := (nI 4)) dX9_quarters_8 (by decide) ?_
      refine r_icmp_geN 38 dX9_quarters_9 (by decide) (by omega) (by omega) (fun h9 => ?_) (fun h9 => ?_)
      · refine r_pc 38 rfl ?_
        refine r_bipush (v := (-2)) dX9_quarters_38 (by decide) ?_
        exact r_iret dX9_quarters_40 rfl rfl rfl
      · exact absurd h9 (by omega)
    | succ m ih =>
      intro i x hi hx
      unfold alk
      have ih := ih (i + 1) (tuI x r 8) (by omega) (tu_V r hx)
      have e2 := tu_bt x r
      by_cases e : x = q'
      · rw [if_pos e]
        refine r_iload dX9_quarters_6 rfl ?_
        refine r_iconst (v := (nI 4)) dX9_quarters_8 (by decide) ?_
        refine r_icmp_geN 38 dX9_quarters_9 (by decide) (by omega) (by omega) (fun h9 => ?_) (fun h9 => ?_)
        · exact absurd h9 (by omega)
        · refine r_pc 12 rfl ?_
          refine r_lload dX9_quarters_12 rfl ?_
          refine r_lload_n dX9_quarters_14 rfl ?_
          refine r_lcmp dX9_quarters_15 ?_
          refine r_if_ne 22 dX9_quarters_16 (by decide) (fun h16 => ?_) (fun h16 => ?_)
          · exact absurd ((lg_cmp_eq _ _).mpr (by rw [e])) h16
          · refine r_pc 19 rfl ?_
            refine r_iload dX9_quarters_19 rfl ?_
            exact r_iret dX9_quarters_21 rfl rfl rfl
      · rw [if_neg e]
        refine r_iload dX9_quarters_6 rfl ?_
        refine r_iconst (v := (nI 4)) dX9_quarters_8 (by decide) ?_
        refine r_icmp_geN 38 dX9_quarters_9 (by decide) (by omega) (by omega) (fun h9 => ?_) (fun h9 => ?_)
        · exact absurd h9 (by omega)
        · refine r_pc 12 rfl ?_
          refine r_lload dX9_quarters_12 rfl ?_
          refine r_lload_n dX9_quarters_14 rfl ?_
          refine r_lcmp dX9_quarters_15 ?_
          refine r_if_ne 22 dX9_quarters_16 (by decide) (fun h16 => ?_) (fun h16 => ?_)
          · refine r_pc 22 rfl ?_
            refine r_aload_n dX9_quarters_22 rfl ?_
            refine r_lload dX9_quarters_23 rfl ?_
            refine r_iload dX9_quarters_25 rfl ?_
            refine r_cV dX9_quarters_27 (m_quarter _) lX9_277 rfl rfl rfl (by decide) ⟨Nat.le_refl _, Nat.le_refl _⟩ (Nat.le_of_ble_eq_true rfl) ?_
            refine r_topl _ e2 ?_
            refine r_lstore (ls' := [_, _, _, _, _, _, _, _, _]) dX9_quarters_30 (by decide) rfl ?_
            refine r_pc 32 rfl ?_
            refine r_inc1 (ls' := [_, _, _, _, _, _, _, _, _]) dX9_quarters_32 (by decide) rfl rfl ?_
            refine r_goto 6 dX9_quarters_35 (by decide) ?_
            refine r_pc 6 rfl ?_
            exact ih
          · exact absurd (bt_inj hx hq' ((lg_cmp_eq _ _).mp h16)) e
  subst hw0
  refine r_lload_n dX9_quarters_0 rfl ?_
  refine r_lstore (ls' := [_, _, _, _, _, _, _, _, _]) dX9_quarters_1 (by decide) rfl ?_
  refine r_iconst (v := (nI 0)) dX9_quarters_3 (by decide) ?_
  refine r_istore (ls' := [_, _, _, _, _, _, _, _, _]) dX9_quarters_4 (by decide) rfl ?_
  refine r_pc 6 rfl ?_
  exact Lp 4 0 q (by omega) hq
end R10
section D4
variable {R : List AE} {w : WD} {L : Nat} {b : Nat → Nat} {n m : Nat} {cd : Nat → Nat} {Q : Nat → Int64} {ik : Bool} {kn : Nat} {kc : Nat → Nat} {kQ : Nat → Int64} {fn : Nat} {fr : Nat → Int32} {fz : Int32} {tal : Nat → Int32}
theorem d_alike0 {x : Int32} (hR : RI L b n m cd Q ik kn kc kQ fn fr fz tal R w) (h : x < 0 ∨ nI 1 < x) : SemP mX9_alike 5 0 0 [.ref 100, .int x] w (Top (-1) (RI L b n m cd Q ik kn kc kQ fn fr fz tal R)) := by
  obtain ⟨rc, rf, ro, rt, ru, rm, rg, rp, rq, ry, rl, wt, rk, rx, rz, rd, rT, rR, rN, rA, rF, rC, rO, rB, rY, rP, rb, rfl, ⟨s1, s2, s3, s4, s5, s6⟩, hB, hrx, hrw, hrz, hrk, hrl, hrd⟩ := hR
  have hm : m ≤ 200 := s4.1
  have hkn : kn ≤ 200 := s5.1
  have hL : L ≤ 120 := s1
  have s3 : n ≤ m := s3
  have hn : n ≤ 200 := Nat.le_trans s3 s4.1
  have s6 : fn ≤ 8 := s6
  have hrx : ∀ j, j < m → rx j = nI (cd j) := hrx
  have hrw : ∀ j, j ≤ m → wt j = bt (Q j) := hrw
  have hrl : ∀ j, j < fn → rl j = fr j := hrl
  have hrd : ∀ j, j < 12 → rd j = tal j := hrd
  have hQn : wt n = bt (Q n) := hrw n s3
  have hVn : Vq (Q n) := s4.2.2.1 n s3
  refine semP_of (by decide) (Nat.le_of_ble_eq_true rfl) rfl ?_
  refine r_iload_n dX9_alike_0 rfl ?_
  refine r_iconst (v := (nI 0)) dX9_alike_1 (by decide) ?_
  refine r_iconst (v := (nI 1)) dX9_alike_2 (by decide) ?_
  refine r_cS dX9_alike_3 (m_isIn _ _ _ _) lX9_147 rfl rfl (by decide) ⟨Nat.le_refl _, Nat.le_refl _⟩ (Nat.le_of_ble_eq_true rfl) ?_
  rw [out_dec (a := nI 0) h]
  refine r_if_ne 11 dX9_alike_6 (by decide) (fun h6 => ?_) (fun h6 => ?_)
  · exact absurd rfl h6
  · refine r_pc 9 rfl ?_
    refine r_iconst (v := (-1)) dX9_alike_9 (by decide) ?_
    exact r_iretP dX9_alike_10 rfl ⟨rfl, _, _, _, _, _, _, _, _, _, _, _, _, _, _, _, _, _, _, _, _, _, _, _, _, _, _, _, rfl, ⟨⟨s1, s2, s3, s4, s5, s6⟩, hB, hrx, hrw, hrz, hrk, hrl, hrd⟩⟩
theorem d_alike1 {s : Nat} (hR : RI L b n m cd Q (false) kn kc kQ fn fr fz tal R w) (h : s < 2) : SemP mX9_alike 5 0 0 [.ref 100, .int (nI s)] w (Top (-5) (RI L b n m cd Q (false) kn kc kQ fn fr fz tal R)) := by
  obtain ⟨rc, rf, ro, rt, ru, rm, rg, rp, rq, ry, rl, wt, rk, rx, rz, rd, rT, rR, rN, rA, rF, rC, rO, rB, rY, rP, rb, rfl, ⟨s1, s2, s3, s4, s5, s6⟩, hB, hrx, hrw, hrz, hrk, hrl, hrd⟩ := hR
  have hm : m ≤ 200 := s4.1
  have hkn : kn ≤ 200 := s5.1
  have hL : L ≤ 120 := s1
  have s3 : n ≤ m := s3
  have hn : n ≤ 200 := Nat.le_trans s3 s4.1
  have s6 : fn ≤ 8 := s6
  have hrx : ∀ j, j < m → rx j = nI (cd j) := hrx
  have hrw : ∀ j, j ≤ m → wt j = bt (Q j) := hrw
  have hrl : ∀ j, j < fn → rl j = fr j := hrl
  have hrd : ∀ j, j < 12 → rd j = tal j := hrd
  have hQn : wt n = bt (Q n) := hrw n s3
  have hVn : Vq (Q n) := s4.2.2.1 n s3
  refine semP_of (by decide) (Nat.le_of_ble_eq_true rfl) rfl ?_
  refine r_iload_n dX9_alike_0 rfl ?_
  refine r_iconst (v := (nI 0)) dX9_alike_1 (by decide) ?_
  refine r_iconst (v := (nI 1)) dX9_alike_2 (by decide) ?_
  refine r_cS dX9_alike_3 (m_isIn _ _ _ _) lX9_147 rfl rfl (by decide) ⟨Nat.le_refl _, Nat.le_refl _⟩ (Nat.le_of_ble_eq_true rfl) ?_
  rw [in_dec (by omega) (by decide) (by decide) ⟨Nat.zero_le _, by omega⟩]
  refine r_if_ne 11 dX9_alike_6 (by decide) (fun h6 => ?_) (fun h6 => ?_)
  · refine r_pc 11 rfl ?_
    refine r_aload_n dX9_alike_11 rfl ?_
    refine r_get dX9_alike_12 fX9_105 rfl rfl ?_
    refine r_if_ge 23 dX9_alike_15 (by decide) (fun h15 => ?_) (fun h15 => ?_)
    · exact absurd h15 (show ¬ (0 : Int32) ≤ -2 by decide)
    · refine r_pc 18 rfl ?_
      refine r_bipush (v := (-5)) dX9_alike_18 (by decide) ?_
      refine r_goto 54 dX9_alike_20 (by decide) ?_
      exact r_iretP dX9_alike_54 rfl ⟨rfl, _, _, _, _, _, _, _, _, _, _, _, _, _, _, _, _, _, _, _, _, _, _, _, _, _, _, _, rfl, ⟨⟨s1, s2, s3, s4, s5, s6⟩, hB, hrx, hrw, hrz, hrk, hrl, hrd⟩⟩
  · exact absurd h6 (by decide)
theorem d_alike2 {s : Nat} (hR : RI L b n m cd Q (true) kn kc kQ fn fr fz tal R w) (h : s < 2) : SemP mX9_alike 5 0 0 [.ref 100, .int (nI s)] w (Top (stN (alk (Q n) (decide (s = 0)) 4 0 (kQ kn))) (RI L b n m cd Q (true) kn kc kQ fn fr fz tal R)) := by
  obtain ⟨rc, rf, ro, rt, ru, rm, rg, rp, rq, ry, rl, wt, rk, rx, rz, rd, rT, rR, rN, rA, rF, rC, rO, rB, rY, rP, rb, rfl, ⟨s1, s2, s3, s4, s5, s6⟩, hB, hrx, hrw, hrz, hrk, hrl, hrd⟩ := hR
  have hm : m ≤ 200 := s4.1
  have hkn : kn ≤ 200 := s5.1
  have hL : L ≤ 120 := s1
  have s3 : n ≤ m := s3
  have hn : n ≤ 200 := Nat.le_trans s3 s4.1
  have s6 : fn ≤ 8 := s6
  have hrx : ∀ j, j < m → rx j = nI (cd j) := hrx
  have hrw : ∀ j, j ≤ m → wt j = bt (Q j) := hrw
  have hrl : ∀ j, j < fn → rl j = fr j := hrl
  have hrd : ∀ j, j < 12 → rd j = tal j := hrd
  have hQn : wt n = bt (Q n) := hrw n s3
  have hVn : Vq (Q n) := s4.2.2.1 n s3
  refine semP_of (by decide) (Nat.le_of_ble_eq_true rfl) rfl ?_
  have hrz := hrz rfl
  have hrk := hrk rfl
  have hkk : rk kn = bt (kQ kn) := hrk kn (Nat.le_refl _)
  have hVk : Vq (kQ kn) := s5.2.2.1 kn (Nat.le_refl _)
  have hpk := nI_pos' (show kn < 2 ^ 31 by omega)
  by_cases e : s = 0
  · rw [decide_eq_true e]
    refine r_iload_n dX9_alike_0 rfl ?_
    refine r_iconst (v := (nI 0)) dX9_alike_1 (by decide) ?_
    refine r_iconst (v := (nI 1)) dX9_alike_2 (by decide) ?_
    refine r_cS dX9_alike_3 (m_isIn _ _ _ _) lX9_147 rfl rfl (by decide) ⟨Nat.le_refl _, Nat.le_refl _⟩ (Nat.le_of_ble_eq_true rfl) ?_
    rw [in_dec (by omega) (by decide) (by decide) ⟨Nat.zero_le _, by omega⟩]
    refine r_if_ne 11 dX9_alike_6 (by decide) (fun h6 => ?_) (fun h6 => ?_)
    · refine r_pc 11 rfl ?_
      refine r_aload_n dX9_alike_11 rfl ?_
      refine r_get dX9_alike_12 fX9_105 rfl rfl ?_
      refine r_if_ge 23 dX9_alike_15 (by decide) (fun h15 => ?_) (fun h15 => ?_)
      · refine r_pc 23 rfl ?_
        refine r_aload_n dX9_alike_23 rfl ?_
        refine r_aload_n dX9_alike_24 rfl ?_
        refine r_get dX9_alike_25 fX9_93 rfl rfl ?_
        refine r_aload_n dX9_alike_28 rfl ?_
        refine r_get dX9_alike_29 fX9_105 rfl rfl ?_
        refine r_pc 32 rfl ?_
        refine r_lald dX9_alike_32 rfl rfl (by omega) (by decide) ?_
        refine r_topl _ hkk ?_
        refine r_aload_n dX9_alike_33 rfl ?_
        refine r_get dX9_alike_34 fX9_89 rfl rfl ?_
        refine r_aload_n dX9_alike_37 rfl ?_
        refine r_get dX9_alike_38 fX9_144 rfl rfl ?_
        refine r_pc 41 rfl ?_
        refine r_lald dX9_alike_41 rfl rfl (by omega) (by decide) ?_
        refine r_topl _ hQn ?_
        refine r_iload_n dX9_alike_42 rfl ?_
        rw [e]
        refine r_if_ne 50 dX9_alike_43 (by decide) (fun h43 => ?_) (fun h43 => ?_)
        · exact absurd rfl h43
        · refine r_pc 46 rfl ?_
          refine r_iconst (v := (nI 1)) dX9_alike_46 (by decide) ?_
          refine r_goto 51 dX9_alike_47 (by decide) ?_
          refine r_cV dX9_alike_51 (m_quarters (r := true) hVk hVn) lX9_281 rfl rfl rfl (by decide) ⟨Nat.le_refl _, Nat.le_refl _⟩ (Nat.le_of_ble_eq_true rfl) ?_
          exact r_iretP dX9_alike_54 rfl ⟨rfl, _, _, _, _, _, _, _, _, _, _, _, _, _, _, _, _, _, _, _, _, _, _, _, _, _, _, _, rfl, ⟨⟨s1, s2, s3, s4, s5, s6⟩, hB, hrx, hrw, fun _ => hrz, fun _ => hrk, hrl, hrd⟩⟩
      · exact absurd hpk h15
    · exact absurd h6 (by decide)
  · rw [decide_eq_false e]
    refine r_iload_n dX9_alike_0 rfl ?_
    refine r_iconst (v := (nI 0)) dX9_alike_1 (by decide) ?_
    refine r_iconst (v := (nI 1)) dX9_alike_2 (by decide) ?_
    refine r_cS dX9_alike_3 (m_isIn _ _ _ _) lX9_147 rfl rfl (by decide) ⟨Nat.le_refl _, Nat.le_refl _⟩ (Nat.le_of_ble_eq_true rfl) ?_
    rw [in_dec (by omega) (by decide) (by decide) ⟨Nat.zero_le _, by omega⟩]
    refine r_if_ne 11 dX9_alike_6 (by decide) (fun h6 => ?_) (fun h6 => ?_)
    · refine r_pc 11 rfl ?_
      refine r_aload_n dX9_alike_11 rfl ?_
      refine r_get dX9_alike_12 fX9_105 rfl rfl ?_
      refine r_if_ge 23 dX9_alike_15 (by decide) (fun h15 => ?_) (fun h15 => ?_)
      · refine r_pc 23 rfl ?_
        refine r_aload_n dX9_alike_23 rfl ?_
        refine r_aload_n dX9_alike_24 rfl ?_
        refine r_get dX9_alike_25 fX9_93 rfl rfl ?_
        refine r_aload_n dX9_alike_28 rfl ?_
        refine r_get dX9_alike_29 fX9_105 rfl rfl ?_
        refine r_pc 32 rfl ?_
        refine r_lald dX9_alike_32 rfl rfl (by omega) (by decide) ?_
        refine r_topl _ hkk ?_
        refine r_aload_n dX9_alike_33 rfl ?_
        refine r_get dX9_alike_34 fX9_89 rfl rfl ?_
        refine r_aload_n dX9_alike_37 rfl ?_
        refine r_get dX9_alike_38 fX9_144 rfl rfl ?_
        refine r_pc 41 rfl ?_
        refine r_lald dX9_alike_41 rfl rfl (by omega) (by decide) ?_
        refine r_topl _ hQn ?_
        refine r_iload_n dX9_alike_42 rfl ?_
        refine r_if_ne 50 dX9_alike_43 (by decide) (fun h43 => ?_) (fun h43 => ?_)
        · refine r_pc 50 rfl ?_
          refine r_iconst (v := (nI 0)) dX9_alike_50 (by decide) ?_
          refine r_cV dX9_alike_51 (m_quarters (r := false) hVk hVn) lX9_281 rfl rfl rfl (by decide) ⟨Nat.le_refl _, Nat.le_refl _⟩ (Nat.le_of_ble_eq_true rfl) ?_
          exact r_iretP dX9_alike_54 rfl ⟨rfl, _, _, _, _, _, _, _, _, _, _, _, _, _, _, _, _, _, _, _, _, _, _, _, _, _, _, _, rfl, ⟨⟨s1, s2, s3, s4, s5, s6⟩, hB, hrx, hrw, fun _ => hrz, fun _ => hrk, hrl, hrd⟩⟩
        · exact absurd (nI_z (by omega) h43) e
      · exact absurd hpk h15
    · exact absurd h6 (by decide)
theorem d_squares0 {x : Int32} (hR : RI L b n m cd Q ik kn kc kQ fn fr fz tal R w) (h : x < 0 ∨ nI 2 < x) : SemP mX9_squares 5 0 0 [.ref 100, .int x] w (Top (-1) (RI L b n m cd Q ik kn kc kQ fn fr fz tal R)) := by
  obtain ⟨rc, rf, ro, rt, ru, rm, rg, rp, rq, ry, rl, wt, rk, rx, rz, rd, rT, rR, rN, rA, rF, rC, rO, rB, rY, rP, rb, rfl, ⟨s1, s2, s3, s4, s5, s6⟩, hB, hrx, hrw, hrz, hrk, hrl, hrd⟩ := hR
  have hm : m ≤ 200 := s4.1
  have hkn : kn ≤ 200 := s5.1
  have hL : L ≤ 120 := s1
  have s3 : n ≤ m := s3
  have hn : n ≤ 200 := Nat.le_trans s3 s4.1
  have s6 : fn ≤ 8 := s6
  have hrx : ∀ j, j < m → rx j = nI (cd j) := hrx
  have hrw : ∀ j, j ≤ m → wt j = bt (Q j) := hrw
  have hrl : ∀ j, j < fn → rl j = fr j := hrl
  have hrd : ∀ j, j < 12 → rd j = tal j := hrd
  have hQn : wt n = bt (Q n) := hrw n s3
  have hVn : Vq (Q n) := s4.2.2.1 n s3
  refine semP_of (by decide) (Nat.le_of_ble_eq_true rfl) rfl ?_
  refine r_iload_n dX9_squares_0 rfl ?_
  refine r_iconst (v := (nI 0)) dX9_squares_1 (by decide) ?_
  refine r_iconst (v := (nI 2)) dX9_squares_2 (by decide) ?_
  refine r_cS dX9_squares_3 (m_isIn _ _ _ _) lX9_147 rfl rfl (by decide) ⟨Nat.le_refl _, Nat.le_refl _⟩ (Nat.le_of_ble_eq_true rfl) ?_
  rw [out_dec (a := nI 0) h]
  refine r_if_ne 11 dX9_squares_6 (by decide) (fun h6 => ?_) (fun h6 => ?_)
  · exact absurd rfl h6
  · refine r_pc 9 rfl ?_
    refine r_iconst (v := (-1)) dX9_squares_9 (by decide) ?_
    exact r_iretP dX9_squares_10 rfl ⟨rfl, _, _, _, _, _, _, _, _, _, _, _, _, _, _, _, _, _, _, _, _, _, _, _, _, _, _, _, rfl, ⟨⟨s1, s2, s3, s4, s5, s6⟩, hB, hrx, hrw, hrz, hrk, hrl, hrd⟩⟩
theorem d_squares1 {s : Nat} (hR : RI L b n m cd Q ik kn kc kQ fn fr fz tal R w) (h : s < 3) : SemP mX9_squares 5 0 0 [.ref 100, .int (nI s)] w (Top (nI (ulS Q (fun _ => 0) s (n + 1)).2) (RI L b n m cd Q ik kn kc kQ fn fr fz tal R)) := by
  obtain ⟨rc, rf, ro, rt, ru, rm, rg, rp, rq, ry, rl, wt, rk, rx, rz, rd, rT, rR, rN, rA, rF, rC, rO, rB, rY, rP, rb, rfl, ⟨s1, s2, s3, s4, s5, s6⟩, hB, hrx, hrw, hrz, hrk, hrl, hrd⟩ := hR
  have hm : m ≤ 200 := s4.1
  have hkn : kn ≤ 200 := s5.1
  have hL : L ≤ 120 := s1
  have s3 : n ≤ m := s3
  have hn : n ≤ 200 := Nat.le_trans s3 s4.1
  have s6 : fn ≤ 8 := s6
  have hrx : ∀ j, j < m → rx j = nI (cd j) := hrx
  have hrw : ∀ j, j ≤ m → wt j = bt (Q j) := hrw
  have hrl : ∀ j, j < fn → rl j = fr j := hrl
  have hrd : ∀ j, j < 12 → rd j = tal j := hrd
  have hQn : wt n = bt (Q n) := hrw n s3
  have hVn : Vq (Q n) := s4.2.2.1 n s3
  refine semP_of (by decide) (Nat.le_of_ble_eq_true rfl) rfl ?_
  generalize hw0 : (R, mW rc rf ro rt ru rm rg rp rq ry rl (nI fn) (fz) (wt) rk rx rz rd (nI n) (nI (m - n)) (rkI ik kn) rT rR (nI L) rN rA rF rC rO rB rY rP rb) = w0
  have hVj : ∀ j, j ≤ m → Vq (Q j) := s4.2.2.1
  have Lp : ∀ (x k : Nat) (y4 y5 : Option Int32), k + x = n + 1 → Rp mX9_squares 5 0 0 w0 (Top (nI (ulS Q (fun _ => 0) s (n + 1)).2) (RI L b n m cd Q ik kn kc kQ fn fr fz tal R)) 0 0 15 [some (.ref 100), some (.int (nI s)), some (.int (nI (ulS Q (fun _ => 0) s k).2)), some (.int (nI k)), y4.map .int, y5.map .int] [] (R, mW rc rf ro rt ru rm rg rp rq ry rl (nI fn) (fz) (wt) rk rx rz rd (nI n) (nI (m - n)) (rkI ik kn) rT rR (nI L) rN rA rF rC rO rB rY rP rb) := by
    intro x
    induction x with
    | zero =>
      intro k y4 y5 hk
      have : k = n + 1 := by omega
      subst this
      refine r_iload_n dX9_squares_15 rfl ?_
      refine r_aload_n dX9_squares_16 rfl ?_
      refine r_get dX9_squares_17 fX9_144 rfl rfl ?_
      refine r_icmp_gtN 131 dX9_squares_20 (by decide) (by omega) (by omega) (fun h20 => ?_) (fun h20 => ?_)
      · refine r_pc 131 rfl ?_
        refine r_iload_n dX9_squares_131 rfl ?_
        exact r_iretP dX9_squares_132 rfl ⟨rfl, _, _, _, _, _, _, _, _, _, _, _, _, _, _, _, _, _, _, _, _, _, _, _, _, _, _, _, rfl, ⟨⟨s1, s2, s3, s4, s5, s6⟩, hB, hrx, hrw, hrz, hrk, hrl, hrd⟩⟩
      · exact absurd h20 (by omega)
    | succ x ih =>
      intro k y4 y5 hk
      have ih := fun y5 => ih (k + 1) (some (bI (nwB s Q k k))) y5 (by omega)
      rw [ul_nw Q (fun _ => 0) s k] at ih
      have hle := ulS_le Q (fun _ => 0) s k
      have T2 : ∀ (j : Nat), Rp mX9_squares 5 0 0 w0 (Top (nI (ulS Q (fun _ => 0) s (n + 1)).2) (RI L b n m cd Q ik kn kc kQ fn fr fz tal R)) 0 0 112 [some (.ref 100), some (.int (nI s)), some (.int (nI (ulS Q (fun _ => 0) s k).2)), some (.int (nI k)), some (.int (bI (nwB s Q k k))), some (.int (nI j))] [] (R, mW rc rf ro rt ru rm rg rp rq ry rl (nI fn) (fz) (wt) rk rx rz rd (nI n) (nI (m - n)) (rkI ik kn) rT rR (nI L) rN rA rF rC rO rB rY rP rb) := by
        intro j
        have ih := ih (some (nI j))
        cases hb : nwB s Q k k with
        | true =>
          rw [hb, if_pos rfl] at ih
          refine r_iload_n dX9_squares_112 rfl ?_
          refine r_iload dX9_squares_113 rfl ?_
          refine r_if_eq 122 dX9_squares_115 (by decide) (fun h115 => ?_) (fun h115 => ?_)
          · exact absurd h115 (by decide)
          · refine r_pc 118 rfl ?_
            refine r_iconst (v := (nI 1)) dX9_squares_118 (by decide) ?_
            refine r_goto 123 dX9_squares_119 (by decide) ?_
            refine r_iaddN dX9_squares_123 ?_
            refine r_istore_n (ls' := [_, _, _, _, _, _]) dX9_squares_124 (by decide) rfl ?_
            refine r_inc1 (ls' := [_, _, _, _, _, _]) dX9_squares_125 (by decide) rfl rfl ?_
            refine r_pc 128 rfl ?_
            refine r_goto 15 dX9_squares_128 (by decide) ?_
            refine r_pc 15 rfl ?_
            exact ih
        | false =>
          rw [hb, if_neg (by decide)] at ih
          refine r_iload_n dX9_squares_112 rfl ?_
          refine r_iload dX9_squares_113 rfl ?_
          refine r_if_eq 122 dX9_squares_115 (by decide) (fun h115 => ?_) (fun h115 => ?_)
          · refine r_pc 122 rfl ?_
            refine r_iconst (v := (nI 0)) dX9_squares_122 (by decide) ?_
            refine r_iaddN dX9_squares_123 ?_
            refine r_istore_n (ls' := [_, _, _, _, _, _]) dX9_squares_124 (by decide) rfl ?_
            refine r_inc1 (ls' := [_, _, _, _, _, _]) dX9_squares_125 (by decide) rfl rfl ?_
            refine r_goto 15 dX9_squares_128 (by decide) ?_
            refine r_pc 15 rfl ?_
            exact ih
          · exact absurd rfl h115
      have Li : ∀ (y j : Nat), j + y = k → Rp mX9_squares 5 0 0 w0 (Top (nI (ulS Q (fun _ => 0) s (n + 1)).2) (RI L b n m cd Q ik kn kc kQ fn fr fz tal R)) 0 0 29 [some (.ref 100), some (.int (nI s)), some (.int (nI (ulS Q (fun _ => 0) s k).2)), some (.int (nI k)), some (.int (bI (nwB s Q k j))), some (.int (nI j))] [] (R, mW rc rf ro rt ru rm rg rp rq ry rl (nI fn) (fz) (wt) rk rx rz rd (nI n) (nI (m - n)) (rkI ik kn) rT rR (nI L) rN rA rF rC rO rB rY rP rb) := by
        intro y
        induction y with
        | zero =>
          intro j hj
          have : j = k := by omega
          subst this
          refine r_iload dX9_squares_29 rfl ?_
          refine r_iload_n dX9_squares_31 rfl ?_
          refine r_icmp_geN 112 dX9_squares_32 (by decide) (by omega) (by omega) (fun h32 => ?_) (fun h32 => ?_)
          · refine r_pc 112 rfl ?_
            refine r_pc 112 rfl ?_
            exact T2 j
          · exact absurd h32 (by omega)
        | succ y ih2 =>
          intro j hj
          have ih2 := ih2 (j + 1) (by omega)
          have T2 := T2 j
          cases hb : nwB s Q k j with
          | false =>
            have hf : nwB s Q k k = false := by
              have := nwB_f hb (y + 1)
              rwa [show j + (y + 1) = k by omega] at this
            rw [hf] at T2
            refine r_iload dX9_squares_29 rfl ?_
            refine r_iload_n dX9_squares_31 rfl ?_
            refine r_icmp_geN 112 dX9_squares_32 (by decide) (by omega) (by omega) (fun h32 => ?_) (fun h32 => ?_)
            · exact absurd h32 (by omega)
            · refine r_pc 35 rfl ?_
              refine r_iload dX9_squares_35 rfl ?_
              refine r_if_eq 112 dX9_squares_37 (by decide) (fun h37 => ?_) (fun h37 => ?_)
              · refine r_pc 112 rfl ?_
                refine r_pc 112 rfl ?_
                exact T2
              · exact absurd rfl h37
          | true =>
            have e1 : wt j = bt (Q j) := hrw j (by omega)
            have e2 : wt k = bt (Q k) := hrw k (by omega)
            have v1 := hVj j (by omega)
            have v2 := hVj k (by omega)
            have h104 : ∀ (b1 : Bool), b1 = (!decide (key s (Q j) = key s (Q k))) → Rp mX9_squares 5 0 0 w0 (Top (nI (ulS Q (fun _ => 0) s (n + 1)).2) (RI L b n m cd Q ik kn kc kQ fn fr fz tal R)) 0 0 104 [some (.ref 100), some (.int (nI s)), some (.int (nI (ulS Q (fun _ => 0) s k).2)), some (.int (nI k)), some (.int (bI true)), some (.int (nI j))] [.int (bI b1)] (R, mW rc rf ro rt ru rm rg rp rq ry rl (nI fn) (fz) (wt) rk rx rz rd (nI n) (nI (m - n)) (rkI ik kn) rT rR (nI L) rN rA rF rC rO rB rY rP rb) := by
              intro b1 hb1
              have ih2 := ih2
              rw [show nwB s Q k (j + 1) = b1 by show (nwB s Q k j && _) = _; rw [hb, ← hb1, Bool.true_and]] at ih2
              refine r_istore (ls' := [_, _, _, _, _, _]) dX9_squares_104 (by decide) rfl ?_
              refine r_inc1 (ls' := [_, _, _, _, _, _]) dX9_squares_106 (by decide) rfl rfl ?_
              refine r_goto 29 dX9_squares_109 (by decide) ?_
              refine r_pc 29 rfl ?_
              exact ih2
            have G65 : key s (Q j) = key s (Q k) → Rp mX9_squares 5 0 0 w0 (Top (nI (ulS Q (fun _ => 0) s (n + 1)).2) (RI L b n m cd Q ik kn kc kQ fn fr fz tal R)) 0 0 65 [some (.ref 100), some (.int (nI s)), some (.int (nI (ulS Q (fun _ => 0) s k).2)), some (.int (nI k)), some (.int (bI true)), some (.int (nI j))] [] (R, mW rc rf ro rt ru rm rg rp rq ry rl (nI fn) (fz) (wt) rk rx rz rd (nI n) (nI (m - n)) (rkI ik kn) rT rR (nI L) rN rA rF rC rO rB rY rP rb) := by
              intro hz
              have h9 := h104 false (by rw [decide_eq_true hz]; rfl)
              refine r_iconst (v := (nI 0)) dX9_squares_65 (by decide) ?_
              refine r_goto 104 dX9_squares_66 (by decide) ?_
              refine r_pc 104 rfl ?_
              exact h9
            have G61 : ¬ key s (Q j) = key s (Q k) → Rp mX9_squares 5 0 0 w0 (Top (nI (ulS Q (fun _ => 0) s (n + 1)).2) (RI L b n m cd Q ik kn kc kQ fn fr fz tal R)) 0 0 61 [some (.ref 100), some (.int (nI s)), some (.int (nI (ulS Q (fun _ => 0) s k).2)), some (.int (nI k)), some (.int (bI true)), some (.int (nI j))] [] (R, mW rc rf ro rt ru rm rg rp rq ry rl (nI fn) (fz) (wt) rk rx rz rd (nI n) (nI (m - n)) (rkI ik kn) rT rR (nI L) rN rA rF rC rO rB rY rP rb) := by
              intro hz
              have h9 := h104 true (by rw [decide_eq_false hz]; rfl)
              refine r_iconst (v := (nI 1)) dX9_squares_61 (by decide) ?_
              refine r_goto 104 dX9_squares_62 (by decide) ?_
              refine r_pc 104 rfl ?_
              exact h9
            have G103 : key s (Q j) = key s (Q k) → Rp mX9_squares 5 0 0 w0 (Top (nI (ulS Q (fun _ => 0) s (n + 1)).2) (RI L b n m cd Q ik kn kc kQ fn fr fz tal R)) 0 0 103 [some (.ref 100), some (.int (nI s)), some (.int (nI (ulS Q (fun _ => 0) s k).2)), some (.int (nI k)), some (.int (bI true)), some (.int (nI j))] [] (R, mW rc rf ro rt ru rm rg rp rq ry rl (nI fn) (fz) (wt) rk rx rz rd (nI n) (nI (m - n)) (rkI ik kn) rT rR (nI L) rN rA rF rC rO rB rY rP rb) := by
              intro hz
              have h9 := h104 false (by rw [decide_eq_true hz]; rfl)
              refine r_iconst (v := (nI 0)) dX9_squares_103 (by decide) ?_
              refine r_pc 104 rfl ?_
              exact h9
            have G99 : ¬ key s (Q j) = key s (Q k) → Rp mX9_squares 5 0 0 w0 (Top (nI (ulS Q (fun _ => 0) s (n + 1)).2) (RI L b n m cd Q ik kn kc kQ fn fr fz tal R)) 0 0 99 [some (.ref 100), some (.int (nI s)), some (.int (nI (ulS Q (fun _ => 0) s k).2)), some (.int (nI k)), some (.int (bI true)), some (.int (nI j))] [] (R, mW rc rf ro rt ru rm rg rp rq ry rl (nI fn) (fz) (wt) rk rx rz rd (nI n) (nI (m - n)) (rkI ik kn) rT rR (nI L) rN rA rF rC rO rB rY rP rb) := by
              intro hz
              have h9 := h104 true (by rw [decide_eq_false hz]; rfl)
              refine r_iconst (v := (nI 1)) dX9_squares_99 (by decide) ?_
              refine r_goto 104 dX9_squares_100 (by decide) ?_
              refine r_pc 104 rfl ?_
              exact h9
            by_cases hs0 : s = 0
            · subst hs0
              rw [key0, key0] at G65 G61
              refine r_iload dX9_squares_29 rfl ?_
              refine r_iload_n dX9_squares_31 rfl ?_
              refine r_icmp_geN 112 dX9_squares_32 (by decide) (by omega) (by omega) (fun h32 => ?_) (fun h32 => ?_)
              · exact absurd h32 (by omega)
              · refine r_pc 35 rfl ?_
                refine r_iload dX9_squares_35 rfl ?_
                refine r_if_eq 112 dX9_squares_37 (by decide) (fun h37 => ?_) (fun h37 => ?_)
                · exact absurd h37 (by decide)
                · refine r_pc 40 rfl ?_
                  refine r_iload_n dX9_squares_40 rfl ?_
                  refine r_if_ne 69 dX9_squares_41 (by decide) (fun h41 => ?_) (fun h41 => ?_)
                  · exact absurd rfl h41
                  · refine r_pc 44 rfl ?_
                    refine r_aload_n dX9_squares_44 rfl ?_
                    refine r_get dX9_squares_45 fX9_89 rfl rfl ?_
                    refine r_iload dX9_squares_48 rfl ?_
                    refine r_lald dX9_squares_50 rfl rfl (by omega) (by decide) ?_
                    refine r_topl _ e1 ?_
                    refine r_aload_n dX9_squares_51 rfl ?_
                    refine r_pc 52 rfl ?_
                    refine r_get dX9_squares_52 fX9_89 rfl rfl ?_
                    refine r_iload_n dX9_squares_55 rfl ?_
                    refine r_lald dX9_squares_56 rfl rfl (by omega) (by decide) ?_
                    refine r_topl _ e2 ?_
                    refine r_lcmp dX9_squares_57 ?_
                    refine r_if_eq 65 dX9_squares_58 (by decide) (fun h58 => ?_) (fun h58 => ?_)
                    · have hz : Q j = Q k := bt_inj v1 v2 ((lg_cmp_eq _ _).mp h58)
                      refine r_pc 65 rfl ?_
                      refine r_pc 65 rfl ?_
                      exact G65 hz
                    · have hz : ¬ Q j = Q k := fun z => h58 ((lg_cmp_eq _ _).mpr (by rw [z]))
                      refine r_pc 61 rfl ?_
                      refine r_pc 61 rfl ?_
                      exact G61 hz
            · have hkey := alk_key s hs0 v1 v2
              cases hk9 : alk (Q k) (decide (s = 1)) 4 0 (Q j) with
              | none =>
                have hz := hkey.mp hk9
                by_cases hs1 : s = 1
                · rw [decide_eq_true hs1] at hk9
                  refine r_iload dX9_squares_29 rfl ?_
                  refine r_iload_n dX9_squares_31 rfl ?_
                  refine r_icmp_geN 112 dX9_squares_32 (by decide) (by omega) (by omega) (fun h32 => ?_) (fun h32 => ?_)
                  · exact absurd h32 (by omega)
                  · refine r_pc 35 rfl ?_
                    refine r_iload dX9_squares_35 rfl ?_
                    refine r_if_eq 112 dX9_squares_37 (by decide) (fun h37 => ?_) (fun h37 => ?_)
                    · exact absurd h37 (by decide)
                    · refine r_pc 40 rfl ?_
                      refine r_iload_n dX9_squares_40 rfl ?_
                      refine r_if_ne 69 dX9_squares_41 (by decide) (fun h41 => ?_) (fun h41 => ?_)
                      · refine r_pc 69 rfl ?_
                        refine r_aload_n dX9_squares_69 rfl ?_
                        refine r_aload_n dX9_squares_70 rfl ?_
                        refine r_get dX9_squares_71 fX9_89 rfl rfl ?_
                        refine r_iload dX9_squares_74 rfl ?_
                        refine r_lald dX9_squares_76 rfl rfl (by omega) (by decide) ?_
                        refine r_pc 77 rfl ?_
                        refine r_topl _ e1 ?_
                        refine r_aload_n dX9_squares_77 rfl ?_
                        refine r_get dX9_squares_78 fX9_89 rfl rfl ?_
                        refine r_iload_n dX9_squares_81 rfl ?_
                        refine r_lald dX9_squares_82 rfl rfl (by omega) (by decide) ?_
                        refine r_topl _ e2 ?_
                        refine r_iload_n dX9_squares_83 rfl ?_
                        refine r_pc 84 rfl ?_
                        refine r_iconst (v := (nI 1)) dX9_squares_84 (by decide) ?_
                        refine r_icmp_neN 92 dX9_squares_85 (by decide) (by omega) (by omega) (fun h85 => ?_) (fun h85 => ?_)
                        · exact absurd hs1 h85
                        · refine r_pc 88 rfl ?_
                          refine r_iconst (v := (nI 1)) dX9_squares_88 (by decide) ?_
                          refine r_goto 93 dX9_squares_89 (by decide) ?_
                          refine r_cV dX9_squares_93 (m_quarters (r := true) v1 v2) lX9_281 rfl rfl rfl (by decide) ⟨Nat.le_refl _, Nat.le_refl _⟩ (Nat.le_of_ble_eq_true rfl) ?_
                          rw [hk9]
                          refine r_if_ge 103 dX9_squares_96 (by decide) (fun h96 => ?_) (fun h96 => ?_)
                          · exact absurd h96 (by decide)
                          · refine r_pc 99 rfl ?_
                            refine r_pc 99 rfl ?_
                            exact G99 hz
                      · exact absurd (nI_z (by omega) h41) hs0
                · rw [decide_eq_false hs1] at hk9
                  refine r_iload dX9_squares_29 rfl ?_
                  refine r_iload_n dX9_squares_31 rfl ?_
                  refine r_icmp_geN 112 dX9_squares_32 (by decide) (by omega) (by omega) (fun h32 => ?_) (fun h32 => ?_)
                  · exact absurd h32 (by omega)
                  · refine r_pc 35 rfl ?_
                    refine r_iload dX9_squares_35 rfl ?_
                    refine r_if_eq 112 dX9_squares_37 (by decide) (fun h37 => ?_) (fun h37 => ?_)
                    · exact absurd h37 (by decide)
                    · refine r_pc 40 rfl ?_
                      refine r_iload_n dX9_squares_40 rfl ?_
                      refine r_if_ne 69 dX9_squares_41 (by decide) (fun h41 => ?_) (fun h41 => ?_)
                      · refine r_pc 69 rfl ?_
                        refine r_aload_n dX9_squares_69 rfl ?_
                        refine r_aload_n dX9_squares_70 rfl ?_
                        refine r_get dX9_squares_71 fX9_89 rfl rfl ?_
                        refine r_iload dX9_squares_74 rfl ?_
                        refine r_lald dX9_squares_76 rfl rfl (by omega) (by decide) ?_
                        refine r_pc 77 rfl ?_
                        refine r_topl _ e1 ?_
                        refine r_aload_n dX9_squares_77 rfl ?_
                        refine r_get dX9_squares_78 fX9_89 rfl rfl ?_
                        refine r_iload_n dX9_squares_81 rfl ?_
                        refine r_lald dX9_squares_82 rfl rfl (by omega) (by decide) ?_
                        refine r_topl _ e2 ?_
                        refine r_iload_n dX9_squares_83 rfl ?_
                        refine r_pc 84 rfl ?_
                        refine r_iconst (v := (nI 1)) dX9_squares_84 (by decide) ?_
                        refine r_icmp_neN 92 dX9_squares_85 (by decide) (by omega) (by omega) (fun h85 => ?_) (fun h85 => ?_)
                        · refine r_pc 92 rfl ?_
                          refine r_iconst (v := (nI 0)) dX9_squares_92 (by decide) ?_
                          refine r_cV dX9_squares_93 (m_quarters (r := false) v1 v2) lX9_281 rfl rfl rfl (by decide) ⟨Nat.le_refl _, Nat.le_refl _⟩ (Nat.le_of_ble_eq_true rfl) ?_
                          rw [hk9]
                          refine r_if_ge 103 dX9_squares_96 (by decide) (fun h96 => ?_) (fun h96 => ?_)
                          · exact absurd h96 (by decide)
                          · refine r_pc 99 rfl ?_
                            refine r_pc 99 rfl ?_
                            exact G99 hz
                        · exact absurd h85 hs1
                      · exact absurd (nI_z (by omega) h41) hs0
              | some e =>
                have hz : key s (Q j) = key s (Q k) := Classical.byContradiction (fun z => by
                  have := hkey.mpr z
                  rw [hk9] at this
                  cases this)
                have he4 := alk_lt 4 0 _ hk9
                have hpe := nI_pos' (show e < 2 ^ 31 by omega)
                by_cases hs1 : s = 1
                · rw [decide_eq_true hs1] at hk9
                  refine r_iload dX9_squares_29 rfl ?_
                  refine r_iload_n dX9_squares_31 rfl ?_
                  refine r_icmp_geN 112 dX9_squares_32 (by decide) (by omega) (by omega) (fun h32 => ?_) (fun h32 => ?_)
                  · exact absurd h32 (by omega)
                  · refine r_pc 35 rfl ?_
                    refine r_iload dX9_squares_35 rfl ?_
                    refine r_if_eq 112 dX9_squares_37 (by decide) (fun h37 => ?_) (fun h37 => ?_)
                    · exact absurd h37 (by decide)
                    · refine r_pc 40 rfl ?_
                      refine r_iload_n dX9_squares_40 rfl ?_
                      refine r_if_ne 69 dX9_squares_41 (by decide) (fun h41 => ?_) (fun h41 => ?_)
                      · refine r_pc 69 rfl ?_
                        refine r_aload_n dX9_squares_69 rfl ?_
                        refine r_aload_n dX9_squares_70 rfl ?_
                        refine r_get dX9_squares_71 fX9_89 rfl rfl ?_
                        refine r_iload dX9_squares_74 rfl ?_
                        refine r_lald dX9_squares_76 rfl rfl (by omega) (by decide) ?_
                        refine r_pc 77 rfl ?_
                        refine r_topl _ e1 ?_
                        refine r_aload_n dX9_squares_77 rfl ?_
                        refine r_get dX9_squares_78 fX9_89 rfl rfl ?_
                        refine r_iload_n dX9_squares_81 rfl ?_
                        refine r_lald dX9_squares_82 rfl rfl (by omega) (by decide) ?_
                        refine r_topl _ e2 ?_
                        refine r_iload_n dX9_squares_83 rfl ?_
                        refine r_pc 84 rfl ?_
                        refine r_iconst (v := (nI 1)) dX9_squares_84 (by decide) ?_
                        refine r_icmp_neN 92 dX9_squares_85 (by decide) (by omega) (by omega) (fun h85 => ?_) (fun h85 => ?_)
                        · exact absurd hs1 h85
                        · refine r_pc 88 rfl ?_
                          refine r_iconst (v := (nI 1)) dX9_squares_88 (by decide) ?_
                          refine r_goto 93 dX9_squares_89 (by decide) ?_
                          refine r_cV dX9_squares_93 (m_quarters (r := true) v1 v2) lX9_281 rfl rfl rfl (by decide) ⟨Nat.le_refl _, Nat.le_refl _⟩ (Nat.le_of_ble_eq_true rfl) ?_
                          rw [hk9]
                          refine r_if_ge 103 dX9_squares_96 (by decide) (fun h96 => ?_) (fun h96 => ?_)
                          · refine r_pc 103 rfl ?_
                            refine r_pc 103 rfl ?_
                            exact G103 hz
                          · exact absurd hpe h96
                      · exact absurd (nI_z (by omega) h41) hs0
                · rw [decide_eq_false hs1] at hk9
                  refine r_iload dX9_squares_29 rfl ?_
                  refine r_iload_n dX9_squares_31 rfl ?_
                  refine r_icmp_geN 112 dX9_squares_32 (by decide) (by omega) (by omega) (fun h32 => ?_) (fun h32 => ?_)
                  · exact absurd h32 (by omega)
                  · refine r_pc 35 rfl ?_
                    refine r_iload dX9_squares_35 rfl ?_
                    refine r_if_eq 112 dX9_squares_37 (by decide) (fun h37 => ?_) (fun h37 => ?_)
                    · exact absurd h37 (by decide)
                    · refine r_pc 40 rfl ?_
                      refine r_iload_n dX9_squares_40 rfl ?_
                      refine r_if_ne 69 dX9_squares_41 (by decide) (fun h41 => ?_) (fun h41 => ?_)
                      · refine r_pc 69 rfl ?_
                        refine r_aload_n dX9_squares_69 rfl ?_
                        refine r_aload_n dX9_squares_70 rfl ?_
                        refine r_get dX9_squares_71 fX9_89 rfl rfl ?_
                        refine r_iload dX9_squares_74 rfl ?_
                        refine r_lald dX9_squares_76 rfl rfl (by omega) (by decide) ?_
                        refine r_pc 77 rfl ?_
                        refine r_topl _ e1 ?_
                        refine r_aload_n dX9_squares_77 rfl ?_
                        refine r_get dX9_squares_78 fX9_89 rfl rfl ?_
                        refine r_iload_n dX9_squares_81 rfl ?_
                        refine r_lald dX9_squares_82 rfl rfl (by omega) (by decide) ?_
                        refine r_topl _ e2 ?_
                        refine r_iload_n dX9_squares_83 rfl ?_
                        refine r_pc 84 rfl ?_
                        refine r_iconst (v := (nI 1)) dX9_squares_84 (by decide) ?_
                        refine r_icmp_neN 92 dX9_squares_85 (by decide) (by omega) (by omega) (fun h85 => ?_) (fun h85 => ?_)
                        · refine r_pc 92 rfl ?_
                          refine r_iconst (v := (nI 0)) dX9_squares_92 (by decide) ?_
                          refine r_cV dX9_squares_93 (m_quarters (r := false) v1 v2) lX9_281 rfl rfl rfl (by decide) ⟨Nat.le_refl _, Nat.le_refl _⟩ (Nat.le_of_ble_eq_true rfl) ?_
                          rw [hk9]
                          refine r_if_ge 103 dX9_squares_96 (by decide) (fun h96 => ?_) (fun h96 => ?_)
                          · refine r_pc 103 rfl ?_
                            refine r_pc 103 rfl ?_
                            exact G103 hz
                          · exact absurd hpe h96
                        · exact absurd h85 hs1
                      · exact absurd (nI_z (by omega) h41) hs0
      refine r_iload_n dX9_squares_15 rfl ?_
      refine r_aload_n dX9_squares_16 rfl ?_
      refine r_get dX9_squares_17 fX9_144 rfl rfl ?_
      refine r_icmp_gtN 131 dX9_squares_20 (by decide) (by omega) (by omega) (fun h20 => ?_) (fun h20 => ?_)
      · exact absurd h20 (by omega)
      · refine r_pc 23 rfl ?_
        refine r_iconst (v := (nI 1)) dX9_squares_23 (by decide) ?_
        refine r_istore (ls' := [_, _, _, _, _, _]) dX9_squares_24 (by decide) rfl ?_
        refine r_iconst (v := (nI 0)) dX9_squares_26 (by decide) ?_
        refine r_istore (ls' := [_, _, _, _, _, _]) dX9_squares_27 (by decide) rfl ?_
        refine r_pc 29 rfl ?_
        exact Li k 0 (by omega)
  subst hw0
  refine r_iload_n dX9_squares_0 rfl ?_
  refine r_iconst (v := (nI 0)) dX9_squares_1 (by decide) ?_
  refine r_iconst (v := (nI 2)) dX9_squares_2 (by decide) ?_
  refine r_cS dX9_squares_3 (m_isIn _ _ _ _) lX9_147 rfl rfl (by decide) ⟨Nat.le_refl _, Nat.le_refl _⟩ (Nat.le_of_ble_eq_true rfl) ?_
  rw [in_dec (by omega) (by decide) (by decide) ⟨Nat.zero_le _, by omega⟩]
  refine r_if_ne 11 dX9_squares_6 (by decide) (fun h6 => ?_) (fun h6 => ?_)
  · refine r_pc 11 rfl ?_
    refine r_iconst (v := (nI 0)) dX9_squares_11 (by decide) ?_
    refine r_istore_n (ls' := [_, _, _, _, _, _]) dX9_squares_12 (by decide) rfl ?_
    refine r_iconst (v := (nI 0)) dX9_squares_13 (by decide) ?_
    refine r_istore_n (ls' := [_, _, _, _, _, _]) dX9_squares_14 (by decide) rfl ?_
    refine r_pc 15 rfl ?_
    exact Lp (n + 1) 0 none none (by omega)
  · exact absurd h6 (by decide)
end D4
