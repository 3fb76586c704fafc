/-! ===== the reference: rings, falls, a call tried ===== -/
theorem stN_nI {o : Option Nat} {x : Nat} (ho : ∀ y, o = some y → y < 2 ^ 31) (hx : x < 2 ^ 31) : stN o = nI x ↔ o = some x := by
  cases o with
  | none => exact ⟨fun q => absurd q.symm (nI_m2 hx), fun q => by cases q⟩
  | some y => exact ⟨fun q => by rw [(nI_eq (ho y rfl) hx).mp q], fun q => by cases q; rfl⟩
def blkM (c : Nat → Nat) (t : Nat → Option Nat) (gs : Nat → Bool) (d x : Nat) : Bool := match who c 8 x with
  | none => false
  | some e => !gs e || decide (t e = some (c d))
def crM (t : Nat → Option Nat) (gs : Nat → Bool) (d x : Nat) : Nat → Bool
  | 0 => false
  | n + 1 => crM t gs d x n || (!decide (n = d) && (gs n && decide (t n = some x)))
def whyM (c : Nat → Nat) (t : Nat → Option Nat) (gs : Nat → Bool) (d : Nat) : Nat := match t d with
  | none => 1
  | some x => if blkM c t gs d x = true then 2 else if crM t gs d x 8 = true then 3 else 0
def wyM (c : Nat → Nat) (t : Nat → Option Nat) (gs : Nat → Bool) (d : Nat) : Nat := if gs d = true then whyM c t gs d else 0
def smM (c : Nat → Nat) (t : Nat → Option Nat) (gs : Nat → Bool) : Nat → Bool
  | 0 => false
  | n + 1 => smM c t gs n || !decide (wyM c t gs n = 0)
theorem crM_ge {t : Nat → Option Nat} {gs : Nat → Bool} {d x i : Nat} (h : crM t gs d x i = true) : ∀ m, crM t gs d x (i + m) = true
  | 0 => h
  | m + 1 => by
    show (crM t gs d x (i + m) || _) = true
    rw [crM_ge h m]
    rfl
theorem whyM_lt (c : Nat → Nat) (t : Nat → Option Nat) (gs : Nat → Bool) (d : Nat) : whyM c t gs d < 4 := by
  unfold whyM
  split
  · decide
  · split
    · decide
    · split <;> decide
theorem wyM_lt (c : Nat → Nat) (t : Nat → Option Nat) (gs : Nat → Bool) (d : Nat) : wyM c t gs d < 4 := by
  unfold wyM
  split
  · exact whyM_lt c t gs d
  · decide
theorem crM_eq {c : Nat → Nat} {t : Nat → Option Nat} {gs : Nat → Bool} {d x : Nat} (hi : Inj c) (hg : ∀ j, j < 8 → gs j = goesB c t j) (hb : blk c t d x = false) : ∀ n, n ≤ 8 → crM t gs d x n = crw t d x n
  | 0, _ => rfl
  | n + 1, hn => by
    unfold crM crw
    rw [crM_eq hi hg hb n (by omega)]
    congr 1
    by_cases q : n = d
    · simp [q]
    · by_cases q2 : t n = some x
      · have : gs n = true := by
          rw [hg n (by omega)]
          cases hz : goesB c t n with
          | true => rfl
          | false =>
            have h1 : t n = some (c n) := by simpa [goesB] using hz
            have h2 : x = c n := by rw [h1] at q2; cases q2; rfl
            have h3 := who_inj hi (show n < 8 by omega)
            rw [← h2] at h3
            rw [blk, h3] at hb
            dsimp only at hb
            rw [hz] at hb
            simp at hb
        simp [this]
      · simp [q2]
theorem whyM_eq {c : Nat → Nat} {t : Nat → Option Nat} {gs : Nat → Bool} {d : Nat} (hi : Inj c) (hg : ∀ j, j < 8 → gs j = goesB c t j) : whyM c t gs d = whyf c t d := by
  unfold whyM whyf
  cases hx : t d with
  | none => rfl
  | some x =>
    dsimp only
    have e : blkM c t gs d x = blk c t d x := by
      unfold blkM blk
      cases he : who c 8 x with
      | none => rfl
      | some e => dsimp only; rw [hg e (who_lt he)]
    rw [e]
    cases hb : blk c t d x with
    | true => rfl
    | false => rw [crM_eq hi hg hb 8 (Nat.le_refl _)]
theorem wyM_eq {c : Nat → Nat} {t : Nat → Option Nat} {gs : Nat → Bool} {d : Nat} (hi : Inj c) (hg : ∀ j, j < 8 → gs j = goesB c t j) (hd : d < 8) : wyM c t gs d = wy c t d := by
  unfold wyM wy
  rw [hg d hd, whyM_eq hi hg]
theorem smM_eq {c : Nat → Nat} {t : Nat → Option Nat} {gs : Nat → Bool} (hi : Inj c) (hg : ∀ j, j < 8 → gs j = goesB c t j) : ∀ n, n ≤ 8 → smM c t gs n = smf c t n
  | 0, _ => rfl
  | n + 1, hn => by
    unfold smM smf
    rw [smM_eq hi hg n (by omega), wyM_eq hi hg (by omega)]
theorem wyM_f {c : Nat → Nat} {t : Nat → Option Nat} {gs : Nat → Bool} {d : Nat} (hg : ∀ j, j < 8 → gs j = false) (hd : d < 8) : wyM c t gs d = 0 := by
  unfold wyM
  rw [hg d hd]
  rfl
theorem smM_f {c : Nat → Nat} {t : Nat → Option Nat} {gs : Nat → Bool} (hg : ∀ j, j < 8 → gs j = false) : ∀ n, n ≤ 8 → smM c t gs n = false
  | 0, _ => rfl
  | n + 1, hn => by
    unfold smM
    rw [smM_f hg n (by omega), wyM_f hg (by omega)]
    rfl
theorem bI_and (a b : Bool) : bI a &&& bI b = bI (a && b) := by cases a <;> cases b <;> decide
theorem plO_HC : ∀ k, k < 8 → plO (HC k) = some k := by decide +kernel
theorem plO_ok : ∀ x, x < 16 → (plO x).all (fun k => decide (HC k = x) && decide (k < 8)) = true := by decide +kernel
theorem plO_at {x k : Nat} (hx : x < 16) (h : plO x = some k) : HC k = x ∧ k < 8 := by
  have := plO_ok x hx
  rw [h] at this
  simpa using this
theorem ringB_of {c : Nat → Nat} : ∀ {n : Nat}, (∀ i, i < n → ∃ d, who c 8 (HC i) = some d) → ringB c n = true
  | 0, _ => rfl
  | n + 1, h => by
    show (ringB c n && (who c 8 (HC n)).isSome) = true
    rw [ringB_of (fun i hi => h i (by omega))]
    obtain ⟨d, hd⟩ := h n (by omega)
    rw [hd]
    rfl
/-- all stand on the ring's cells: the ring is full -/
theorem ring_of {c : Nat → Nat} (hi : Inj c) (hc : ∀ d, d < 8 → c d < 16) (h : ∀ d, d < 8 → ∃ k, plO (c d) = some k) : ringB c 8 = true := by
  have hg : ∀ d, d < 8 → plO (c d) = some ((plO (c d)).getD 0) := by
    intro d hd
    obtain ⟨k, hk⟩ := h d hd
    rw [hk]; rfl
  refine ringB_of (fun k hk => ?_)
  obtain ⟨d, hd, e⟩ := pig 8 (fun d => (plO (c d)).getD 0) (fun d hd => (plO_at (hc d hd) (hg d hd)).2) (fun i h1 j h2 q => hi i h1 j h2 (by
    have a := (plO_at (hc i h1) (hg i h1)).1
    have b := (plO_at (hc j h2) (hg j h2)).1
    rw [← a, ← b]
    exact congrArg HC q)) k hk
  have a := (plO_at (hc d hd) (hg d hd)).1
  rw [e] at a
  exact ⟨d, by rw [a]; exact who_inj hi hd⟩
section R5
variable {rc rf ro rt ru rm rg : Nat → Int32} {rp rq : Int32} {ry rl : Nat → Int32} {rn ra : Int32} {rw rk : Nat → Int64} {rx rz rd : Nat → Int32} {rM rU rK : Int32} {rT rR : Nat → Int32} {rL rN rA rF : Int32} {rC : Nat → Int64} {rO rB rY rP : Nat → Int32} {rb : Int32}
variable {Q : List AE} {c f : Nat → Nat} {p0 gs : Nat → Bool} {t : Nat → Option Nat}
theorem m_rings1 (hS : Sq rc rf c f) (h : (allB p0 8 && ringB c 8) = true) : Sem mX9_rings 2 0 0 [.ref 100, .int (mbI p0 8)] (Q, mW rc rf ro rt ru rm rg rp rq ry rl rn ra rw rk rx rz rd rM rU rK rT rR rL rN rA rF rC rO rB rY rP rb) none (Q, mW rc rf ro (fun j => nI (rgT c j)) (fun j => nI (rgU c j)) rm (fun _ => nI 1) (nI 8) rq ry rl rn ra rw rk rx rz rd rM rU rK rT rR rL rN rA rF rC rO rB rY rP rb) := by
  refine sem_of (by decide) (Nat.le_of_ble_eq_true rfl) rfl ?_
  rw [Bool.and_eq_true] at h
  obtain ⟨ha, hr⟩ := h
  generalize hw0 : (Q, mW rc rf ro rt ru rm rg rp rq ry rl rn ra rw rk rx rz rd rM rU rK rT rR rL rN rA rF rC rO rB rY rP rb) = w0
  have L : ∀ (m i : Nat) (rt ru rg : Nat → Int32) (y3 : Option Value), i + m = 8 → (∀ j, j < i → rt j = nI (rgT c j)) → (∀ j, j < i → ru j = nI (rgU c j)) → (∀ j, j < i → rg j = nI 1) → Rn mX9_rings 2 0 0 w0 none (Q, mW rc rf ro (fun j => nI (rgT c j)) (fun j => nI (rgU c j)) rm (fun _ => nI 1) (nI 8) rq ry rl rn ra rw rk rx rz rd rM rU rK rT rR rL rN rA rF rC rO rB rY rP rb) 0 0 8 [some (.ref 100), some (.int (mbI p0 8)), some (.int (nI i)), y3] [] (Q, mW rc rf ro rt ru rm rg (nI 8) rq ry rl rn ra rw rk rx rz rd rM rU rK rT rR rL rN rA rF rC rO rB rY rP rb) := by
    intro m
    induction m with
    | zero =>
      intro i rt ru rg y3 hi h1 h2 h3
      have : i = 8 := by omega
      subst this
      refine r_weq _ (weq_M (rt' := fun j => nI (rgT c j)) (ru' := fun j => nI (rgU c j)) (rg' := fun _ => nI 1) (fun _ _ => rfl) (fun _ _ => rfl) (fun _ _ => rfl) h1 h2 (fun _ _ => rfl) h3 (fun _ _ => rfl)) ?_
      refine r_iload_n dX9_rings_8 rfl ?_
      refine r_bipush (v := (nI 8)) dX9_rings_9 (by decide) ?_
      refine r_icmp_geN 78 dX9_rings_11 (by decide) (by omega) (by omega) (fun h11 => ?_) (fun h11 => ?_)
      · refine r_pc 78 rfl ?_
        exact r_vret dX9_rings_78 rfl rfl rfl
      · exact absurd h11 (by omega)
    | succ m ih =>
      intro i rt ru rg y3 hi h1 h2 h3
      have hi8 : i < 8 := by omega
      obtain ⟨e1, b1, -, -⟩ := hS i hi8
      obtain ⟨k, hk, ek⟩ := ring_all hr hi8
      have hp : plO (c i) = some k := by rw [ek]; exact plO_HC k hk
      have hn8 : (k + 1) % 8 < 8 := Nat.mod_lt _ (by decide)
      have g1 : nI (HC ((k + 1) % 8)) = nI (rgT c i) := by simp only [rgT, ek, pl_HC k hk]
      have g2 : nI (HF ((k + 1) % 8)) = nI (rgU c i) := by simp only [rgU, ek, pl_HC k hk]
      refine r_iload_n dX9_rings_8 rfl ?_
      refine r_bipush (v := (nI 8)) dX9_rings_9 (by decide) ?_
      refine r_icmp_geN 78 dX9_rings_11 (by decide) (by omega) (by omega) (fun h11 => ?_) (fun h11 => ?_)
      · exact absurd h11 (by omega)
      · refine r_pc 14 rfl ?_
        refine r_aload_n dX9_rings_14 rfl ?_
        refine r_get dX9_rings_15 fX9_60 rfl rfl ?_
        refine r_iload_n dX9_rings_18 rfl ?_
        refine r_iald dX9_rings_19 rfl rfl hi8 (by decide) ?_
        refine r_topi _ e1 ?_
        refine r_cS dX9_rings_20 (m_placeOf b1 _) lX9_189 rfl rfl (by decide) ⟨Nat.le_refl _, Nat.le_refl _⟩ (Nat.le_of_ble_eq_true rfl) ?_
        refine r_pc 23 rfl ?_
        rw [hp]
        refine r_istore_n (ls' := [_, _, _, _]) dX9_rings_23 (by decide) rfl ?_
        refine r_iload_n dX9_rings_24 rfl ?_
        refine r_if_lt 35 dX9_rings_25 (by decide) (fun h25 => ?_) (fun h25 => ?_)
        · exact absurd h25 (nI_pos (by omega))
        · refine r_pc 28 rfl ?_
          refine r_iload_n dX9_rings_28 rfl ?_
          refine r_sipush (v := (nI 255)) dX9_rings_29 (by decide) ?_
          refine r_icmp_eq 41 dX9_rings_32 (by decide) (fun h32 => ?_) (fun h32 => ?_)
          · refine r_pc 41 rfl ?_
            refine r_aload_n dX9_rings_41 rfl ?_
            refine r_iload_n dX9_rings_42 rfl ?_
            refine r_gets (a := 5) dX9_rings_43 rfl sX9_130 ?_
            refine r_iload_n dX9_rings_46 rfl ?_
            refine r_iconst (v := (nI 1)) dX9_rings_47 (by decide) ?_
            refine r_pc 48 rfl ?_
            refine r_iaddN dX9_rings_48 ?_
            refine r_bipush (v := (nI 8)) dX9_rings_49 (by decide) ?_
            refine r_iremN dX9_rings_51 (by omega) (by decide) (by decide) ?_
            refine r_cald (v := nI (HC ((k + 1) % 8))) 5 rfl (Or.inl ⟨dX9_rings_52, rfl⟩) rfl hn8 (by decide) (HC_I _ hn8) ?_
            refine r_cVv dX9_rings_53 (m_goesTo hi8) lX9_172 rfl rfl rfl (by decide) ⟨Nat.le_refl _, Nat.le_refl _⟩ (Nat.le_of_ble_eq_true rfl) ?_
            refine r_pc 56 rfl ?_
            refine r_aload_n dX9_rings_56 rfl ?_
            refine r_get dX9_rings_57 fX9_73 rfl rfl ?_
            refine r_iload_n dX9_rings_60 rfl ?_
            refine r_gets (a := 6) dX9_rings_61 rfl sX9_133 ?_
            refine r_iload_n dX9_rings_64 rfl ?_
            refine r_pc 65 rfl ?_
            refine r_iconst (v := (nI 1)) dX9_rings_65 (by decide) ?_
            refine r_iaddN dX9_rings_66 ?_
            refine r_bipush (v := (nI 8)) dX9_rings_67 (by decide) ?_
            refine r_iremN dX9_rings_69 (by omega) (by decide) (by decide) ?_
            refine r_cald (v := nI (HF ((k + 1) % 8))) 6 rfl (Or.inl ⟨dX9_rings_70, rfl⟩) rfl hn8 (by decide) (HF_I _ hn8) ?_
            refine r_pc 71 rfl ?_
            refine r_iast (w2 := (_, mW _ _ _ _ _ _ _ _ _ _ _ _ _ _ _ _ _ _ _ _ _ _ _ _ _ _ _ _ _ _ _ _ _)) dX9_rings_71 rfl rfl hi8 (by decide) rfl ?_
            refine r_inc1 (ls' := [_, _, _, _]) dX9_rings_72 (by decide) rfl rfl ?_
            refine r_goto 8 dX9_rings_75 (by decide) ?_
            refine r_pc 8 rfl ?_
            exact ih (i + 1) _ _ _ _ (by omega) (upd_lt h1 g1) (upd_lt h2 g2) (upd_lt (g := fun _ => nI 1) h3 rfl)
          · exact absurd ((mb_all p0).mpr ha) h32
  subst hw0
  refine r_aload_n dX9_rings_0 rfl ?_
  refine r_bipush (v := (nI 8)) dX9_rings_1 (by decide) ?_
  refine r_put (w2 := (_, mW _ _ _ _ _ _ _ _ _ _ _ _ _ _ _ _ _ _ _ _ _ _ _ _ _ _ _ _ _ _ _ _ _)) dX9_rings_3 fX9_183 rfl rfl (Nat.le_of_ble_eq_true rfl) (fun _ => rfl) (fun _ => rfl) rfl ?_
  refine r_iconst (v := (nI 0)) dX9_rings_6 (by decide) ?_
  refine r_istore_n (ls' := [_, _, _, _]) dX9_rings_7 (by decide) rfl ?_
  refine r_pc 8 rfl ?_
  refine r_pc 8 rfl ?_
  exact L 8 0 _ _ _ _ (by omega) (fun j h => absurd h (by omega)) (fun j h => absurd h (by omega)) (fun j h => absurd h (by omega))
def RgP (Q : List AE) (W : (Nat → Int32) → (Nat → Int32) → (Nat → Int32) → List AE) (r : Option Value) (w : WD) : Prop := r = none ∧ ∃ rt ru rg, w = (Q, W rt ru rg)
theorem m_rings0 (hS : Sq rc rf c f) (hi_ : Inj c) (h : (allB p0 8 && ringB c 8) = false) : SemP mX9_rings 2 0 0 [.ref 100, .int (mbI p0 8)] (Q, mW rc rf ro rt ru rm rg rp rq ry rl rn ra rw rk rx rz rd rM rU rK rT rR rL rN rA rF rC rO rB rY rP rb) (RgP Q (fun rt ru rg => (Q, mW rc rf ro rt ru rm rg (nI 8) (nI 5) ry rl rn ra rw rk rx rz rd rM rU rK rT rR rL rN rA rF rC rO rB rY rP rb).2)) := by
  refine semP_of (by decide) (Nat.le_of_ble_eq_true rfl) rfl ?_
  generalize hw0 : (Q, mW rc rf ro rt ru rm rg rp rq ry rl rn ra rw rk rx rz rd rM rU rK rT rR rL rN rA rF rC rO rB rY rP rb) = w0
  have L : ∀ (m i : Nat) (rt ru rg : Nat → Int32) (y3 : Option Value), i + m = 8 → (∀ j, j < i → allB p0 8 = true ∧ ∃ k, plO (c j) = some k) → Rp mX9_rings 2 0 0 w0 (RgP Q (fun rt ru rg => (Q, mW rc rf ro rt ru rm rg (nI 8) (nI 5) ry rl rn ra rw rk rx rz rd rM rU rK rT rR rL rN rA rF rC rO rB rY rP rb).2)) 0 0 8 [some (.ref 100), some (.int (mbI p0 8)), some (.int (nI i)), y3] [] (Q, mW rc rf ro rt ru rm rg (nI 8) rq ry rl rn ra rw rk rx rz rd rM rU rK rT rR rL rN rA rF rC rO rB rY rP rb) := by
    intro m
    induction m with
    | zero =>
      intro i rt ru rg y3 hi h1
      have : i = 8 := by omega
      subst this
      rw [(h1 0 (by omega)).1, ring_of hi_ (fun d hd => (hS d hd).2.1) (fun d hd => (h1 d hd).2)] at h
      cases h
    | succ m ih =>
      intro i rt ru rg y3 hi h1
      have hi8 : i < 8 := by omega
      obtain ⟨e1, b1, -, -⟩ := hS i hi8
      cases hp : plO (c i) with
      | none =>
        refine r_iload_n dX9_rings_8 rfl ?_
        refine r_bipush (v := (nI 8)) dX9_rings_9 (by decide) ?_
        refine r_icmp_geN 78 dX9_rings_11 (by decide) (by omega) (by omega) (fun h11 => ?_) (fun h11 => ?_)
        · exact absurd h11 (by omega)
        · refine r_pc 14 rfl ?_
          refine r_aload_n dX9_rings_14 rfl ?_
          refine r_get dX9_rings_15 fX9_60 rfl rfl ?_
          refine r_iload_n dX9_rings_18 rfl ?_
          refine r_iald dX9_rings_19 rfl rfl hi8 (by decide) ?_
          refine r_topi _ e1 ?_
          refine r_cS dX9_rings_20 (m_placeOf b1 _) lX9_189 rfl rfl (by decide) ⟨Nat.le_refl _, Nat.le_refl _⟩ (Nat.le_of_ble_eq_true rfl) ?_
          refine r_pc 23 rfl ?_
          rw [hp]
          refine r_istore_n (ls' := [_, _, _, _]) dX9_rings_23 (by decide) rfl ?_
          refine r_iload_n dX9_rings_24 rfl ?_
          refine r_if_lt 35 dX9_rings_25 (by decide) (fun h25 => ?_) (fun h25 => ?_)
          · refine r_pc 35 rfl ?_
            refine r_aload_n dX9_rings_35 rfl ?_
            refine r_iconst (v := (nI 5)) dX9_rings_36 (by decide) ?_
            refine r_put (w2 := (_, mW _ _ _ _ _ _ _ _ _ _ _ _ _ _ _ _ _ _ _ _ _ _ _ _ _ _ _ _ _ _ _ _ _)) dX9_rings_37 fX9_193 rfl rfl (Nat.le_of_ble_eq_true rfl) (fun _ => rfl) (fun _ => rfl) rfl ?_
            exact r_vretP dX9_rings_40 rfl ⟨rfl, _, _, _, rfl⟩
          · exact absurd (by decide) h25
      | some k =>
        obtain ⟨ek, hk⟩ := plO_at b1 hp
        have hn8 : (k + 1) % 8 < 8 := Nat.mod_lt _ (by decide)
        by_cases ha : allB p0 8 = true
        · refine r_iload_n dX9_rings_8 rfl ?_
          refine r_bipush (v := (nI 8)) dX9_rings_9 (by decide) ?_
          refine r_icmp_geN 78 dX9_rings_11 (by decide) (by omega) (by omega) (fun h11 => ?_) (fun h11 => ?_)
          · exact absurd h11 (by omega)
          · refine r_pc 14 rfl ?_
            refine r_aload_n dX9_rings_14 rfl ?_
            refine r_get dX9_rings_15 fX9_60 rfl rfl ?_
            refine r_iload_n dX9_rings_18 rfl ?_
            refine r_iald dX9_rings_19 rfl rfl hi8 (by decide) ?_
            refine r_topi _ e1 ?_
            refine r_cS dX9_rings_20 (m_placeOf b1 _) lX9_189 rfl rfl (by decide) ⟨Nat.le_refl _, Nat.le_refl _⟩ (Nat.le_of_ble_eq_true rfl) ?_
            refine r_pc 23 rfl ?_
            rw [hp]
            refine r_istore_n (ls' := [_, _, _, _]) dX9_rings_23 (by decide) rfl ?_
            refine r_iload_n dX9_rings_24 rfl ?_
            refine r_if_lt 35 dX9_rings_25 (by decide) (fun h25 => ?_) (fun h25 => ?_)
            · exact absurd h25 (nI_pos (by omega))
            · refine r_pc 28 rfl ?_
              refine r_iload_n dX9_rings_28 rfl ?_
              refine r_sipush (v := (nI 255)) dX9_rings_29 (by decide) ?_
              refine r_icmp_eq 41 dX9_rings_32 (by decide) (fun h32 => ?_) (fun h32 => ?_)
              · refine r_pc 41 rfl ?_
                refine r_aload_n dX9_rings_41 rfl ?_
                refine r_iload_n dX9_rings_42 rfl ?_
                refine r_gets (a := 5) dX9_rings_43 rfl sX9_130 ?_
                refine r_iload_n dX9_rings_46 rfl ?_
                refine r_iconst (v := (nI 1)) dX9_rings_47 (by decide) ?_
                refine r_pc 48 rfl ?_
                refine r_iaddN dX9_rings_48 ?_
                refine r_bipush (v := (nI 8)) dX9_rings_49 (by decide) ?_
                refine r_iremN dX9_rings_51 (by omega) (by decide) (by decide) ?_
                refine r_cald (v := nI (HC ((k + 1) % 8))) 5 rfl (Or.inl ⟨dX9_rings_52, rfl⟩) rfl hn8 (by decide) (HC_I _ hn8) ?_
                refine r_cVv dX9_rings_53 (m_goesTo hi8) lX9_172 rfl rfl rfl (by decide) ⟨Nat.le_refl _, Nat.le_refl _⟩ (Nat.le_of_ble_eq_true rfl) ?_
                refine r_pc 56 rfl ?_
                refine r_aload_n dX9_rings_56 rfl ?_
                refine r_get dX9_rings_57 fX9_73 rfl rfl ?_
                refine r_iload_n dX9_rings_60 rfl ?_
                refine r_gets (a := 6) dX9_rings_61 rfl sX9_133 ?_
                refine r_iload_n dX9_rings_64 rfl ?_
                refine r_pc 65 rfl ?_
                refine r_iconst (v := (nI 1)) dX9_rings_65 (by decide) ?_
                refine r_iaddN dX9_rings_66 ?_
                refine r_bipush (v := (nI 8)) dX9_rings_67 (by decide) ?_
                refine r_iremN dX9_rings_69 (by omega) (by decide) (by decide) ?_
                refine r_cald (v := nI (HF ((k + 1) % 8))) 6 rfl (Or.inl ⟨dX9_rings_70, rfl⟩) rfl hn8 (by decide) (HF_I _ hn8) ?_
                refine r_pc 71 rfl ?_
                refine r_iast (w2 := (_, mW _ _ _ _ _ _ _ _ _ _ _ _ _ _ _ _ _ _ _ _ _ _ _ _ _ _ _ _ _ _ _ _ _)) dX9_rings_71 rfl rfl hi8 (by decide) rfl ?_
                refine r_inc1 (ls' := [_, _, _, _]) dX9_rings_72 (by decide) rfl rfl ?_
                refine r_goto 8 dX9_rings_75 (by decide) ?_
                refine r_pc 8 rfl ?_
                exact ih (i + 1) _ _ _ _ (by omega) (fun j hj => by by_cases q : j = i; (subst q; exact ⟨ha, k, hp⟩); (exact h1 j (by omega)))
              · exact absurd ((mb_all p0).mpr ha) h32
        · refine r_iload_n dX9_rings_8 rfl ?_
          refine r_bipush (v := (nI 8)) dX9_rings_9 (by decide) ?_
          refine r_icmp_geN 78 dX9_rings_11 (by decide) (by omega) (by omega) (fun h11 => ?_) (fun h11 => ?_)
          · exact absurd h11 (by omega)
          · refine r_pc 14 rfl ?_
            refine r_aload_n dX9_rings_14 rfl ?_
            refine r_get dX9_rings_15 fX9_60 rfl rfl ?_
            refine r_iload_n dX9_rings_18 rfl ?_
            refine r_iald dX9_rings_19 rfl rfl hi8 (by decide) ?_
            refine r_topi _ e1 ?_
            refine r_cS dX9_rings_20 (m_placeOf b1 _) lX9_189 rfl rfl (by decide) ⟨Nat.le_refl _, Nat.le_refl _⟩ (Nat.le_of_ble_eq_true rfl) ?_
            refine r_pc 23 rfl ?_
            rw [hp]
            refine r_istore_n (ls' := [_, _, _, _]) dX9_rings_23 (by decide) rfl ?_
            refine r_iload_n dX9_rings_24 rfl ?_
            refine r_if_lt 35 dX9_rings_25 (by decide) (fun h25 => ?_) (fun h25 => ?_)
            · exact absurd h25 (nI_pos (by omega))
            · refine r_pc 28 rfl ?_
              refine r_iload_n dX9_rings_28 rfl ?_
              refine r_sipush (v := (nI 255)) dX9_rings_29 (by decide) ?_
              refine r_icmp_eq 41 dX9_rings_32 (by decide) (fun h32 => ?_) (fun h32 => ?_)
              · exact absurd ((mb_all p0).mp h32) ha
              · refine r_pc 35 rfl ?_
                refine r_aload_n dX9_rings_35 rfl ?_
                refine r_iconst (v := (nI 5)) dX9_rings_36 (by decide) ?_
                refine r_put (w2 := (_, mW _ _ _ _ _ _ _ _ _ _ _ _ _ _ _ _ _ _ _ _ _ _ _ _ _ _ _ _ _ _ _ _ _)) dX9_rings_37 fX9_193 rfl rfl (Nat.le_of_ble_eq_true rfl) (fun _ => rfl) (fun _ => rfl) rfl ?_
                exact r_vretP dX9_rings_40 rfl ⟨rfl, _, _, _, rfl⟩
  subst hw0
  refine r_aload_n dX9_rings_0 rfl ?_
  refine r_bipush (v := (nI 8)) dX9_rings_1 (by decide) ?_
  refine r_put (w2 := (_, mW _ _ _ _ _ _ _ _ _ _ _ _ _ _ _ _ _ _ _ _ _ _ _ _ _ _ _ _ _ _ _ _ _)) dX9_rings_3 fX9_183 rfl rfl (Nat.le_of_ble_eq_true rfl) (fun _ => rfl) (fun _ => rfl) rfl ?_
  refine r_iconst (v := (nI 0)) dX9_rings_6 (by decide) ?_
  refine r_istore_n (ls' := [_, _, _, _]) dX9_rings_7 (by decide) rfl ?_
  refine r_pc 8 rfl ?_
  refine r_pc 8 rfl ?_
  exact L 8 0 _ _ _ _ (by omega) (fun j h => absurd h (by omega))
theorem m_fallOf {d : Nat} (hd : d < 8) (hS : Sq rc rf c f) (hs : SdM ro c) (ht : Tl t) (hrt : ∀ j, j < 8 → rt j = stN (t j)) (hrg : ∀ j, j < 8 → rg j = bI (gs j)) : Sem mX9_fallOf 1 0 0 [.ref 100, .int (nI d)] (Q, mW rc rf ro rt ru rm rg rp rq ry rl rn ra rw rk rx rz rd rM rU rK rT rR rL rN rA rF rC rO rB rY rP rb) (some (.int (nI (whyM c t gs d)))) (Q, mW rc rf ro rt ru rm rg rp rq ry rl rn ra rw rk rx rz rd rM rU rK rT rR rL rN rA rF rC rO rB rY rP rb) := by
  refine sem_of (by decide) (Nat.le_of_ble_eq_true rfl) rfl ?_
  obtain ⟨e1, b1, -, -⟩ := hS d hd
  have e2 := hrt d hd
  unfold whyM
  cases hx : t d with
  | none =>
    rw [hx] at e2
    refine r_aload_n dX9_fallOf_0 rfl ?_
    refine r_get dX9_fallOf_1 fX9_70 rfl rfl ?_
    refine r_iload_n dX9_fallOf_4 rfl ?_
    refine r_iald dX9_fallOf_5 rfl rfl hd (by decide) ?_
    refine r_topi _ e2 ?_
    refine r_if_ge 11 dX9_fallOf_6 (by decide) (fun h6 => ?_) (fun h6 => ?_)
    · exact absurd h6 (by decide)
    · refine r_pc 9 rfl ?_
      refine r_iconst (v := (nI 1)) dX9_fallOf_9 (by decide) ?_
      exact r_iret dX9_fallOf_10 rfl rfl rfl
  | some x =>
    rw [hx] at e2
    have hx16 := ht d hd x hx
    have L : ∀ (m i : Nat) (y2 : Int32), i + m = 8 → crM t gs d x i = false → Rn mX9_fallOf 1 0 0 (Q, mW rc rf ro rt ru rm rg rp rq ry rl rn ra rw rk rx rz rd rM rU rK rT rR rL rN rA rF rC rO rB rY rP rb) (some (.int (nI (if crM t gs d x 8 = true then 3 else 0)))) (Q, mW rc rf ro rt ru rm rg rp rq ry rl rn ra rw rk rx rz rd rM rU rK rT rR rL rN rA rF rC rO rB rY rP rb) 0 0 55 [some (.ref 100), some (.int (nI d)), some (.int y2), some (.int (nI i))] [] (Q, mW rc rf ro rt ru rm rg rp rq ry rl rn ra rw rk rx rz rd rM rU rK rT rR rL rN rA rF rC rO rB rY rP rb) := by
      intro m
      induction m with
      | zero =>
        intro i y3 hi h1
        have : i = 8 := by omega
        subst this
        refine r_iload_n dX9_fallOf_55 rfl ?_
        refine r_bipush (v := (nI 8)) dX9_fallOf_56 (by decide) ?_
        refine r_icmp_geN 98 dX9_fallOf_58 (by decide) (by omega) (by omega) (fun h58 => ?_) (fun h58 => ?_)
        · refine r_pc 98 rfl ?_
          refine r_iconst (v := (nI 0)) dX9_fallOf_98 (by decide) ?_
          exact r_iret dX9_fallOf_99 rfl (by rw [h1]; rfl) rfl
        · exact absurd h58 (by omega)
      | succ m ih =>
        intro i y3 hi h1
        have hi8 : i < 8 := by omega
        have e3 := hrt i hi8
        have e4 := hrg i hi8
        cases hg : gs i with
        | false =>
          have hc : crM t gs d x (i + 1) = false := by (show (crM t gs d x i || _) = false; rw [h1, hg]; simp)
          rw [hg] at e4
          refine r_iload_n dX9_fallOf_55 rfl ?_
          refine r_bipush (v := (nI 8)) dX9_fallOf_56 (by decide) ?_
          refine r_icmp_geN 98 dX9_fallOf_58 (by decide) (by omega) (by omega) (fun h58 => ?_) (fun h58 => ?_)
          · exact absurd h58 (by omega)
          · refine r_pc 61 rfl ?_
            refine r_iload_n dX9_fallOf_61 rfl ?_
            refine r_iload_n dX9_fallOf_62 rfl ?_
            refine r_icmp_eqN 92 dX9_fallOf_63 (by decide) (by omega) (by omega) (fun h63 => ?_) (fun h63 => ?_)
            · refine r_pc 92 rfl ?_
              refine r_inc1 (ls' := [_, _, _, _]) dX9_fallOf_92 (by decide) rfl rfl ?_
              refine r_goto 55 dX9_fallOf_95 (by decide) ?_
              refine r_pc 55 rfl ?_
              exact ih (i + 1) _ (by omega) hc
            · refine r_pc 66 rfl ?_
              refine r_aload_n dX9_fallOf_66 rfl ?_
              refine r_get dX9_fallOf_67 fX9_79 rfl rfl ?_
              refine r_iload_n dX9_fallOf_70 rfl ?_
              refine r_zald dX9_fallOf_71 rfl rfl hi8 (by decide) ?_
              refine r_topi _ e4 ?_
              refine r_if_eq 92 dX9_fallOf_72 (by decide) (fun h72 => ?_) (fun h72 => ?_)
              · refine r_pc 92 rfl ?_
                refine r_inc1 (ls' := [_, _, _, _]) dX9_fallOf_92 (by decide) rfl rfl ?_
                refine r_goto 55 dX9_fallOf_95 (by decide) ?_
                refine r_pc 55 rfl ?_
                exact ih (i + 1) _ (by omega) hc
              · exact absurd rfl h72
        | true =>
          rw [hg] at e4
          refine r_iload_n dX9_fallOf_55 rfl ?_
          refine r_bipush (v := (nI 8)) dX9_fallOf_56 (by decide) ?_
          refine r_icmp_geN 98 dX9_fallOf_58 (by decide) (by omega) (by omega) (fun h58 => ?_) (fun h58 => ?_)
          · exact absurd h58 (by omega)
          · refine r_pc 61 rfl ?_
            refine r_iload_n dX9_fallOf_61 rfl ?_
            refine r_iload_n dX9_fallOf_62 rfl ?_
            refine r_icmp_eqN 92 dX9_fallOf_63 (by decide) (by omega) (by omega) (fun h63 => ?_) (fun h63 => ?_)
            · have hc : crM t gs d x (i + 1) = false := by (show (crM t gs d x i || _) = false; rw [h1]; simp [h63])
              refine r_pc 92 rfl ?_
              refine r_inc1 (ls' := [_, _, _, _]) dX9_fallOf_92 (by decide) rfl rfl ?_
              refine r_goto 55 dX9_fallOf_95 (by decide) ?_
              refine r_pc 55 rfl ?_
              exact ih (i + 1) _ (by omega) hc
            · refine r_pc 66 rfl ?_
              refine r_aload_n dX9_fallOf_66 rfl ?_
              refine r_get dX9_fallOf_67 fX9_79 rfl rfl ?_
              refine r_iload_n dX9_fallOf_70 rfl ?_
              refine r_zald dX9_fallOf_71 rfl rfl hi8 (by decide) ?_
              refine r_topi _ e4 ?_
              refine r_if_eq 92 dX9_fallOf_72 (by decide) (fun h72 => ?_) (fun h72 => ?_)
              · exact absurd h72 (by decide)
              · refine r_pc 75 rfl ?_
                refine r_aload_n dX9_fallOf_75 rfl ?_
                refine r_get dX9_fallOf_76 fX9_70 rfl rfl ?_
                refine r_iload_n dX9_fallOf_79 rfl ?_
                refine r_iald dX9_fallOf_80 rfl rfl hi8 (by decide) ?_
                refine r_topi _ e3 ?_
                refine r_aload_n dX9_fallOf_81 rfl ?_
                refine r_pc 82 rfl ?_
                refine r_get dX9_fallOf_82 fX9_70 rfl rfl ?_
                refine r_iload_n dX9_fallOf_85 rfl ?_
                refine r_iald dX9_fallOf_86 rfl rfl hd (by decide) ?_
                refine r_topi _ e2 ?_
                refine r_icmp_ne 92 dX9_fallOf_87 (by decide) (fun h87 => ?_) (fun h87 => ?_)
                · have hc : crM t gs d x (i + 1) = false := by (show (crM t gs d x i || _) = false; rw [h1]; simp; exact fun _ _ q => h87 (by rw [q]))
                  refine r_pc 92 rfl ?_
                  refine r_inc1 (ls' := [_, _, _, _]) dX9_fallOf_92 (by decide) rfl rfl ?_
                  refine r_goto 55 dX9_fallOf_95 (by decide) ?_
                  refine r_pc 55 rfl ?_
                  exact ih (i + 1) _ (by omega) hc
                · have hc : crM t gs d x (i + 1) = true := by (show (crM t gs d x i || _) = true; rw [h1]; simp; exact ⟨h63, hg, (stN_nI (fun y hy => by have := ht i hi8 y hy; omega) (by omega)).mp h87⟩)
                  have hc8 := crM_ge hc m
                  rw [show i + 1 + m = 8 by omega] at hc8
                  refine r_pc 90 rfl ?_
                  refine r_iconst (v := (nI 3)) dX9_fallOf_90 (by decide) ?_
                  exact r_iret dX9_fallOf_91 rfl (by rw [hc8]; rfl) rfl
    dsimp only
    unfold blkM
    have e3 := hs x hx16
    cases hw : who c 8 x with
    | none =>
      rw [hw] at e3
      simp only [Bool.false_eq_true, if_false]
      refine r_aload_n dX9_fallOf_0 rfl ?_
      refine r_get dX9_fallOf_1 fX9_70 rfl rfl ?_
      refine r_iload_n dX9_fallOf_4 rfl ?_
      refine r_iald dX9_fallOf_5 rfl rfl hd (by decide) ?_
      refine r_topi _ e2 ?_
      refine r_if_ge 11 dX9_fallOf_6 (by decide) (fun h6 => ?_) (fun h6 => ?_)
      · refine r_pc 11 rfl ?_
        refine r_aload_n dX9_fallOf_11 rfl ?_
        refine r_get dX9_fallOf_12 fX9_67 rfl rfl ?_
        refine r_aload_n dX9_fallOf_15 rfl ?_
        refine r_get dX9_fallOf_16 fX9_70 rfl rfl ?_
        refine r_iload_n dX9_fallOf_19 rfl ?_
        refine r_pc 20 rfl ?_
        refine r_iald dX9_fallOf_20 rfl rfl hd (by decide) ?_
        refine r_topi _ e2 ?_
        refine r_iald dX9_fallOf_21 rfl rfl hx16 (by decide) ?_
        refine r_topi _ e3 ?_
        refine r_istore_n (ls' := [_, _, _, _]) dX9_fallOf_22 (by decide) rfl ?_
        refine r_iload_n dX9_fallOf_23 rfl ?_
        refine r_if_lt 53 dX9_fallOf_24 (by decide) (fun h24 => ?_) (fun h24 => ?_)
        · refine r_pc 53 rfl ?_
          refine r_iconst (v := (nI 0)) dX9_fallOf_53 (by decide) ?_
          refine r_istore_n (ls' := [_, _, _, _]) dX9_fallOf_54 (by decide) rfl ?_
          refine r_pc 55 rfl ?_
          exact L 8 0 _ (by omega) rfl
        · exact absurd (by decide) h24
      · exact absurd (nI_pos' (by omega)) h6
    | some e =>
      rw [hw] at e3
      have he := who_lt hw
      have e5 := hrg e he
      dsimp only
      rcases Bool.eq_false_or_eq_true (gs e) with hg | hg
      rotate_left
      · rw [hg] at e5
        simp only [hg, Bool.not_false, Bool.true_or, if_true]
        refine r_aload_n dX9_fallOf_0 rfl ?_
        refine r_get dX9_fallOf_1 fX9_70 rfl rfl ?_
        refine r_iload_n dX9_fallOf_4 rfl ?_
        refine r_iald dX9_fallOf_5 rfl rfl hd (by decide) ?_
        refine r_topi _ e2 ?_
        refine r_if_ge 11 dX9_fallOf_6 (by decide) (fun h6 => ?_) (fun h6 => ?_)
        · refine r_pc 11 rfl ?_
          refine r_aload_n dX9_fallOf_11 rfl ?_
          refine r_get dX9_fallOf_12 fX9_67 rfl rfl ?_
          refine r_aload_n dX9_fallOf_15 rfl ?_
          refine r_get dX9_fallOf_16 fX9_70 rfl rfl ?_
          refine r_iload_n dX9_fallOf_19 rfl ?_
          refine r_pc 20 rfl ?_
          refine r_iald dX9_fallOf_20 rfl rfl hd (by decide) ?_
          refine r_topi _ e2 ?_
          refine r_iald dX9_fallOf_21 rfl rfl hx16 (by decide) ?_
          refine r_topi _ e3 ?_
          refine r_istore_n (ls' := [_, _, _, _]) dX9_fallOf_22 (by decide) rfl ?_
          refine r_iload_n dX9_fallOf_23 rfl ?_
          refine r_if_lt 53 dX9_fallOf_24 (by decide) (fun h24 => ?_) (fun h24 => ?_)
          · exact absurd h24 (nI_pos (by omega))
          · refine r_pc 27 rfl ?_
            refine r_aload_n dX9_fallOf_27 rfl ?_
            refine r_get dX9_fallOf_28 fX9_79 rfl rfl ?_
            refine r_iload_n dX9_fallOf_31 rfl ?_
            refine r_zald dX9_fallOf_32 rfl rfl he (by decide) ?_
            refine r_topi _ e5 ?_
            refine r_if_eq 51 dX9_fallOf_33 (by decide) (fun h33 => ?_) (fun h33 => ?_)
            · refine r_pc 51 rfl ?_
              refine r_iconst (v := (nI 2)) dX9_fallOf_51 (by decide) ?_
              exact r_iret dX9_fallOf_52 rfl rfl rfl
            · exact absurd rfl h33
        · exact absurd (nI_pos' (by omega)) h6
      · rw [hg] at e5
        simp only [hg, Bool.not_true, Bool.false_or, decide_eq_true_eq]
        refine r_aload_n dX9_fallOf_0 rfl ?_
        refine r_get dX9_fallOf_1 fX9_70 rfl rfl ?_
        refine r_iload_n dX9_fallOf_4 rfl ?_
        refine r_iald dX9_fallOf_5 rfl rfl hd (by decide) ?_
        refine r_topi _ e2 ?_
        refine r_if_ge 11 dX9_fallOf_6 (by decide) (fun h6 => ?_) (fun h6 => ?_)
        · refine r_pc 11 rfl ?_
          refine r_aload_n dX9_fallOf_11 rfl ?_
          refine r_get dX9_fallOf_12 fX9_67 rfl rfl ?_
          refine r_aload_n dX9_fallOf_15 rfl ?_
          refine r_get dX9_fallOf_16 fX9_70 rfl rfl ?_
          refine r_iload_n dX9_fallOf_19 rfl ?_
          refine r_pc 20 rfl ?_
          refine r_iald dX9_fallOf_20 rfl rfl hd (by decide) ?_
          refine r_topi _ e2 ?_
          refine r_iald dX9_fallOf_21 rfl rfl hx16 (by decide) ?_
          refine r_topi _ e3 ?_
          refine r_istore_n (ls' := [_, _, _, _]) dX9_fallOf_22 (by decide) rfl ?_
          refine r_iload_n dX9_fallOf_23 rfl ?_
          refine r_if_lt 53 dX9_fallOf_24 (by decide) (fun h24 => ?_) (fun h24 => ?_)
          · exact absurd h24 (nI_pos (by omega))
          · refine r_pc 27 rfl ?_
            refine r_aload_n dX9_fallOf_27 rfl ?_
            refine r_get dX9_fallOf_28 fX9_79 rfl rfl ?_
            refine r_iload_n dX9_fallOf_31 rfl ?_
            refine r_zald dX9_fallOf_32 rfl rfl he (by decide) ?_
            refine r_topi _ e5 ?_
            refine r_if_eq 51 dX9_fallOf_33 (by decide) (fun h33 => ?_) (fun h33 => ?_)
            · exact absurd h33 (by decide)
            · refine r_pc 36 rfl ?_
              refine r_aload_n dX9_fallOf_36 rfl ?_
              refine r_get dX9_fallOf_37 fX9_70 rfl rfl ?_
              refine r_iload_n dX9_fallOf_40 rfl ?_
              refine r_iald dX9_fallOf_41 rfl rfl he (by decide) ?_
              refine r_topi _ (hrt e he) ?_
              refine r_aload_n dX9_fallOf_42 rfl ?_
              refine r_pc 43 rfl ?_
              refine r_get dX9_fallOf_43 fX9_60 rfl rfl ?_
              refine r_iload_n dX9_fallOf_46 rfl ?_
              refine r_iald dX9_fallOf_47 rfl rfl hd (by decide) ?_
              refine r_topi _ e1 ?_
              refine r_icmp_ne 53 dX9_fallOf_48 (by decide) (fun h48 => ?_) (fun h48 => ?_)
              · rw [if_neg (fun q => h48 (by rw [q]; rfl))]
                refine r_pc 53 rfl ?_
                refine r_iconst (v := (nI 0)) dX9_fallOf_53 (by decide) ?_
                refine r_istore_n (ls' := [_, _, _, _]) dX9_fallOf_54 (by decide) rfl ?_
                refine r_pc 55 rfl ?_
                exact L 8 0 _ (by omega) rfl
              · rw [if_pos ((stN_nI (fun y hy => by have := ht e he y hy; omega) (by omega)).mp h48)]
                refine r_pc 51 rfl ?_
                refine r_iconst (v := (nI 2)) dX9_fallOf_51 (by decide) ?_
                exact r_iret dX9_fallOf_52 rfl rfl rfl
        · exact absurd (nI_pos' (by omega)) h6
end R5
