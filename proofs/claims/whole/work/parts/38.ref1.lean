/-! ===== the reference: squares looked at ===== -/
def rqn (q : Int64) (d : Nat) : Nat := (q >>> ((nI (6 * d)).toInt64 &&& 63)).toInt32.toBitVec.toNat % 2 ^ 6
def rqc (q : Int64) (d : Nat) : Nat := rqn q d / 4
def rqf (q : Int64) (d : Nat) : Nat := rqn q d % 4
theorem rqn_lt (q : Int64) (d : Nat) : rqn q d < 64 := Nat.mod_lt _ (by decide)
theorem rqc_lt (q : Int64) (d : Nat) : rqc q d < 16 := by have := rqn_lt q d; unfold rqc; omega
theorem rqf_lt (q : Int64) (d : Nat) : rqf q d < 4 := Nat.mod_lt _ (by decide)
theorem rqn_eq (q : Int64) (d : Nat) : (q >>> ((nI (6 * d)).toInt64 &&& 63)).toInt32 &&& nI 63 = nI (rqn q d) := pk_and _ 6 (by decide)
def pkR (a b : Nat → Int32) : Nat → Int64
  | 0 => 0
  | n + 1 => pkR a b n ||| ((nI 4 * a n + b n).toInt64 <<< ((nI (6 * n)).toInt64 &&& 63))
def SdM (ro : Nat → Int32) (c : Nat → Nat) : Prop := ∀ x, x < 16 → ro x = stN (who c 8 x)
theorem whoM_step {fs : Nat → Int32} {c : Nat → Nat} {i : Nat} (h : ∀ x, x < 16 → fs x = stN (who c i x)) : ∀ x, x < 16 → upd fs (c i) (nI i) x = stN (who c (i + 1) x) := by
  intro x hx
  unfold who
  by_cases e : c i = x
  · subst e
    rw [pk_us, if_pos rfl]
    rfl
  · rw [pk_un (fun z => e z.symm), if_neg e]
    exact h x hx
theorem m_isIn (w : WD) (x a b : Int32) : Sem mX9_isIn 1 0 0 [.int x, .int a, .int b] w (some (.int (bI (decide (¬ x < a ∧ ¬ b < x))))) w := by
  refine sem_of (by decide) (Nat.le_of_ble_eq_true rfl) rfl ?_
  refine r_iload_n dX9_isIn_0 rfl ?_
  refine r_iload_n dX9_isIn_1 rfl ?_
  refine r_icmp_lt 14 dX9_isIn_2 (by decide) (fun h2 => ?_) (fun h2 => ?_)
  · rw [decide_eq_false (fun z => z.1 h2)]
    refine r_pc 14 rfl ?_
    refine r_iconst (v := (nI 0)) dX9_isIn_14 (by decide) ?_
    exact r_zret dX9_isIn_15 rfl rfl rfl rfl
  · refine r_pc 5 rfl ?_
    refine r_iload_n dX9_isIn_5 rfl ?_
    refine r_iload_n dX9_isIn_6 rfl ?_
    refine r_icmp_gt 14 dX9_isIn_7 (by decide) (fun h7 => ?_) (fun h7 => ?_)
    · rw [decide_eq_false (fun z => z.2 h7)]
      refine r_pc 14 rfl ?_
      refine r_iconst (v := (nI 0)) dX9_isIn_14 (by decide) ?_
      exact r_zret dX9_isIn_15 rfl rfl rfl rfl
    · rw [decide_eq_true ⟨h2, h7⟩]
      refine r_pc 10 rfl ?_
      refine r_iconst (v := (nI 1)) dX9_isIn_10 (by decide) ?_
      refine r_goto 15 dX9_isIn_11 (by decide) ?_
      exact r_zret dX9_isIn_15 rfl rfl rfl rfl
theorem m_has (w : WD) (x d : Int32) : Sem mX9_has 1 0 0 [.int x, .int d] w (some (.int (bI (decide (x >>> (d &&& 31) &&& nI 1 = nI 1))))) w := by
  refine sem_of (by decide) (Nat.le_of_ble_eq_true rfl) rfl ?_
  refine r_iload_n dX9_has_0 rfl ?_
  refine r_iload_n dX9_has_1 rfl ?_
  refine r_ishr dX9_has_2 ?_
  refine r_iconst (v := (nI 1)) dX9_has_3 (by decide) ?_
  refine r_iand dX9_has_4 ?_
  refine r_pc 5 rfl ?_
  refine r_iconst (v := (nI 1)) dX9_has_5 (by decide) ?_
  refine r_icmp_ne 13 dX9_has_6 (by decide) (fun h6 => ?_) (fun h6 => ?_)
  · rw [decide_eq_false h6]
    refine r_pc 13 rfl ?_
    refine r_iconst (v := (nI 0)) dX9_has_13 (by decide) ?_
    exact r_zret dX9_has_14 rfl rfl rfl rfl
  · rw [decide_eq_true h6]
    refine r_pc 9 rfl ?_
    refine r_iconst (v := (nI 1)) dX9_has_9 (by decide) ?_
    refine r_goto 14 dX9_has_10 (by decide) ?_
    exact r_zret dX9_has_14 rfl rfl rfl rfl
theorem m_hasB (w : WD) (p : Nat → Bool) {d : Nat} (hd : d < 8) : Sem mX9_has 1 0 0 [.int (mbI p 8), .int (nI d)] w (some (.int (bI (p d)))) w := by
  have h := m_has w (mbI p 8) (nI d)
  have e : decide (mbI p 8 >>> (nI d &&& 31) &&& nI 1 = nI 1) = p d := by
    cases hp : p d with
    | true => exact decide_eq_true ((mb_bit p hd).mpr hp)
    | false => exact decide_eq_false (fun z => by rw [(mb_bit p hd).mp z] at hp; cases hp)
  rw [e] at h
  exact h
def nxI (ex ey : Int32) (c : Nat) : Int32 := if (decide (¬ nI (c % 4) + ex < nI 0 ∧ ¬ nI 3 < nI (c % 4) + ex) && decide (¬ nI (c / 4) + ey < nI 0 ∧ ¬ nI 3 < nI (c / 4) + ey)) = true then nI 4 * (nI (c / 4) + ey) + (nI (c % 4) + ex) else -2
theorem nxI0 : ∀ c, c < 16 → nxI (nI 0) (nI 1) c = stN (nb c 0) := by decide +kernel
theorem nxI1 : ∀ c, c < 16 → nxI (nI 1) (nI 0) c = stN (nb c 1) := by decide +kernel
theorem nxI2 : ∀ c, c < 16 → nxI (nI 0) (-1) c = stN (nb c 2) := by decide +kernel
theorem nxI3 : ∀ c, c < 16 → nxI (-1) (nI 0) c = stN (nb c 3) := by decide +kernel
theorem m_next (w : WD) {c f : Nat} (hc : c < 16) (hf : f < 4) : Sem mX9_next 2 0 0 [.int (nI c), .int (nI f)] w (some (.int (stN (nb c f)))) w := by
  refine sem_of (by decide) (Nat.le_of_ble_eq_true rfl) rfl ?_
  have T : ∀ (ex ey : Int32), Rn mX9_next 2 0 0 w (some (.int (nxI ex ey c))) w 0 0 47 [some (.int (nI c)), some (.int (nI f)), some (.int (nI (c % 4) + ex)), some (.int (nI (c / 4) + ey))] [] w := by
    intro ex ey
    unfold nxI
    cases h1 : decide (¬ nI (c % 4) + ex < nI 0 ∧ ¬ nI 3 < nI (c % 4) + ex) with
    | false =>
      refine r_iload_n dX9_next_47 rfl ?_
      refine r_iconst (v := (nI 0)) dX9_next_48 (by decide) ?_
      refine r_iconst (v := (nI 3)) dX9_next_49 (by decide) ?_
      refine r_cS dX9_next_50 (m_isIn _ _ _ _) lX9_147 rfl rfl (by decide) ⟨Nat.le_refl _, Nat.le_refl _⟩ (Nat.le_of_ble_eq_true rfl) ?_
      rw [h1]
      refine r_if_eq 73 dX9_next_53 (by decide) (fun h53 => ?_) (fun h53 => ?_)
      · refine r_pc 73 rfl ?_
        refine r_bipush (v := (-2)) dX9_next_73 (by decide) ?_
        exact r_iret dX9_next_75 rfl (by rw [Bool.false_and]; rfl) rfl
      · exact absurd rfl h53
    | true =>
      cases h2 : decide (¬ nI (c / 4) + ey < nI 0 ∧ ¬ nI 3 < nI (c / 4) + ey) with
      | false =>
        refine r_iload_n dX9_next_47 rfl ?_
        refine r_iconst (v := (nI 0)) dX9_next_48 (by decide) ?_
        refine r_iconst (v := (nI 3)) dX9_next_49 (by decide) ?_
        refine r_cS dX9_next_50 (m_isIn _ _ _ _) lX9_147 rfl rfl (by decide) ⟨Nat.le_refl _, Nat.le_refl _⟩ (Nat.le_of_ble_eq_true rfl) ?_
        rw [h1]
        refine r_if_eq 73 dX9_next_53 (by decide) (fun h53 => ?_) (fun h53 => ?_)
        · exact absurd h53 (by decide)
        · refine r_pc 56 rfl ?_
          refine r_iload_n dX9_next_56 rfl ?_
          refine r_iconst (v := (nI 0)) dX9_next_57 (by decide) ?_
          refine r_iconst (v := (nI 3)) dX9_next_58 (by decide) ?_
          refine r_cS dX9_next_59 (m_isIn _ _ _ _) lX9_147 rfl rfl (by decide) ⟨Nat.le_refl _, Nat.le_refl _⟩ (Nat.le_of_ble_eq_true rfl) ?_
          rw [h2]
          refine r_if_eq 73 dX9_next_62 (by decide) (fun h62 => ?_) (fun h62 => ?_)
          · refine r_pc 73 rfl ?_
            refine r_bipush (v := (-2)) dX9_next_73 (by decide) ?_
            exact r_iret dX9_next_75 rfl rfl rfl
          · exact absurd rfl h62
      | true =>
        refine r_iload_n dX9_next_47 rfl ?_
        refine r_iconst (v := (nI 0)) dX9_next_48 (by decide) ?_
        refine r_iconst (v := (nI 3)) dX9_next_49 (by decide) ?_
        refine r_cS dX9_next_50 (m_isIn _ _ _ _) lX9_147 rfl rfl (by decide) ⟨Nat.le_refl _, Nat.le_refl _⟩ (Nat.le_of_ble_eq_true rfl) ?_
        rw [h1]
        refine r_if_eq 73 dX9_next_53 (by decide) (fun h53 => ?_) (fun h53 => ?_)
        · exact absurd h53 (by decide)
        · refine r_pc 56 rfl ?_
          refine r_iload_n dX9_next_56 rfl ?_
          refine r_iconst (v := (nI 0)) dX9_next_57 (by decide) ?_
          refine r_iconst (v := (nI 3)) dX9_next_58 (by decide) ?_
          refine r_cS dX9_next_59 (m_isIn _ _ _ _) lX9_147 rfl rfl (by decide) ⟨Nat.le_refl _, Nat.le_refl _⟩ (Nat.le_of_ble_eq_true rfl) ?_
          rw [h2]
          refine r_if_eq 73 dX9_next_62 (by decide) (fun h62 => ?_) (fun h62 => ?_)
          · exact absurd h62 (by decide)
          · refine r_pc 65 rfl ?_
            refine r_iconst (v := (nI 4)) dX9_next_65 (by decide) ?_
            refine r_iload_n dX9_next_66 rfl ?_
            refine r_imul dX9_next_67 ?_
            refine r_iload_n dX9_next_68 rfl ?_
            refine r_iadd dX9_next_69 ?_
            refine r_pc 70 rfl ?_
            refine r_goto 75 dX9_next_70 (by decide) ?_
            exact r_iret dX9_next_75 rfl rfl rfl
  match f, hf with
  | 0, _ =>
    rw [← nxI0 c hc]
    refine r_iload_n dX9_next_0 rfl ?_
    refine r_iconst (v := (nI 4)) dX9_next_1 (by decide) ?_
    refine r_iremN dX9_next_2 (by omega) (by decide) (by decide) ?_
    refine r_iload_n dX9_next_3 rfl ?_
    refine r_iconst (v := (nI 1)) dX9_next_4 (by decide) ?_
    refine r_pc 5 rfl ?_
    refine r_icmp_neN 12 dX9_next_5 (by decide) (by omega) (by omega) (fun h5 => ?_) (fun h5 => ?_)
    · refine r_pc 12 rfl ?_
      refine r_iload_n dX9_next_12 rfl ?_
      refine r_iconst (v := (nI 3)) dX9_next_13 (by decide) ?_
      refine r_icmp_neN 21 dX9_next_14 (by decide) (by omega) (by omega) (fun h14 => ?_) (fun h14 => ?_)
      · refine r_pc 21 rfl ?_
        refine r_iconst (v := (nI 0)) dX9_next_21 (by decide) ?_
        refine r_iadd dX9_next_22 ?_
        refine r_istore_n (ls' := [_, _, _, _]) dX9_next_23 (by decide) rfl ?_
        refine r_iload_n dX9_next_24 rfl ?_
        refine r_iconst (v := (nI 4)) dX9_next_25 (by decide) ?_
        refine r_pc 26 rfl ?_
        refine r_idivN dX9_next_26 (by omega) (by decide) (by decide) ?_
        refine r_iload_n dX9_next_27 rfl ?_
        refine r_if_ne 35 dX9_next_28 (by decide) (fun h28 => ?_) (fun h28 => ?_)
        · exact absurd rfl h28
        · refine r_pc 31 rfl ?_
          refine r_iconst (v := (nI 1)) dX9_next_31 (by decide) ?_
          refine r_goto 45 dX9_next_32 (by decide) ?_
          refine r_iadd dX9_next_45 ?_
          refine r_istore_n (ls' := [_, _, _, _]) dX9_next_46 (by decide) rfl ?_
          refine r_pc 47 rfl ?_
          exact T _ _
      · exact absurd h14 (by decide)
    · exact absurd h5 (by decide)
  | 1, _ =>
    rw [← nxI1 c hc]
    refine r_iload_n dX9_next_0 rfl ?_
    refine r_iconst (v := (nI 4)) dX9_next_1 (by decide) ?_
    refine r_iremN dX9_next_2 (by omega) (by decide) (by decide) ?_
    refine r_iload_n dX9_next_3 rfl ?_
    refine r_iconst (v := (nI 1)) dX9_next_4 (by decide) ?_
    refine r_pc 5 rfl ?_
    refine r_icmp_neN 12 dX9_next_5 (by decide) (by omega) (by omega) (fun h5 => ?_) (fun h5 => ?_)
    · exact absurd rfl h5
    · refine r_pc 8 rfl ?_
      refine r_iconst (v := (nI 1)) dX9_next_8 (by decide) ?_
      refine r_goto 22 dX9_next_9 (by decide) ?_
      refine r_iadd dX9_next_22 ?_
      refine r_istore_n (ls' := [_, _, _, _]) dX9_next_23 (by decide) rfl ?_
      refine r_iload_n dX9_next_24 rfl ?_
      refine r_pc 25 rfl ?_
      refine r_iconst (v := (nI 4)) dX9_next_25 (by decide) ?_
      refine r_idivN dX9_next_26 (by omega) (by decide) (by decide) ?_
      refine r_iload_n dX9_next_27 rfl ?_
      refine r_if_ne 35 dX9_next_28 (by decide) (fun h28 => ?_) (fun h28 => ?_)
      · refine r_pc 35 rfl ?_
        refine r_iload_n dX9_next_35 rfl ?_
        refine r_iconst (v := (nI 2)) dX9_next_36 (by decide) ?_
        refine r_icmp_neN 44 dX9_next_37 (by decide) (by omega) (by omega) (fun h37 => ?_) (fun h37 => ?_)
        · refine r_pc 44 rfl ?_
          refine r_iconst (v := (nI 0)) dX9_next_44 (by decide) ?_
          refine r_iadd dX9_next_45 ?_
          refine r_istore_n (ls' := [_, _, _, _]) dX9_next_46 (by decide) rfl ?_
          refine r_pc 47 rfl ?_
          exact T _ _
        · exact absurd h37 (by decide)
      · exact absurd h28 (by decide)
  | 2, _ =>
    rw [← nxI2 c hc]
    refine r_iload_n dX9_next_0 rfl ?_
    refine r_iconst (v := (nI 4)) dX9_next_1 (by decide) ?_
    refine r_iremN dX9_next_2 (by omega) (by decide) (by decide) ?_
    refine r_iload_n dX9_next_3 rfl ?_
    refine r_iconst (v := (nI 1)) dX9_next_4 (by decide) ?_
    refine r_pc 5 rfl ?_
    refine r_icmp_neN 12 dX9_next_5 (by decide) (by omega) (by omega) (fun h5 => ?_) (fun h5 => ?_)
    · refine r_pc 12 rfl ?_
      refine r_iload_n dX9_next_12 rfl ?_
      refine r_iconst (v := (nI 3)) dX9_next_13 (by decide) ?_
      refine r_icmp_neN 21 dX9_next_14 (by decide) (by omega) (by omega) (fun h14 => ?_) (fun h14 => ?_)
      · refine r_pc 21 rfl ?_
        refine r_iconst (v := (nI 0)) dX9_next_21 (by decide) ?_
        refine r_iadd dX9_next_22 ?_
        refine r_istore_n (ls' := [_, _, _, _]) dX9_next_23 (by decide) rfl ?_
        refine r_iload_n dX9_next_24 rfl ?_
        refine r_iconst (v := (nI 4)) dX9_next_25 (by decide) ?_
        refine r_pc 26 rfl ?_
        refine r_idivN dX9_next_26 (by omega) (by decide) (by decide) ?_
        refine r_iload_n dX9_next_27 rfl ?_
        refine r_if_ne 35 dX9_next_28 (by decide) (fun h28 => ?_) (fun h28 => ?_)
        · refine r_pc 35 rfl ?_
          refine r_iload_n dX9_next_35 rfl ?_
          refine r_iconst (v := (nI 2)) dX9_next_36 (by decide) ?_
          refine r_icmp_neN 44 dX9_next_37 (by decide) (by omega) (by omega) (fun h37 => ?_) (fun h37 => ?_)
          · exact absurd rfl h37
          · refine r_pc 40 rfl ?_
            refine r_iconst (v := (-1)) dX9_next_40 (by decide) ?_
            refine r_goto 45 dX9_next_41 (by decide) ?_
            refine r_iadd dX9_next_45 ?_
            refine r_istore_n (ls' := [_, _, _, _]) dX9_next_46 (by decide) rfl ?_
            refine r_pc 47 rfl ?_
            exact T _ _
        · exact absurd h28 (by decide)
      · exact absurd h14 (by decide)
    · exact absurd h5 (by decide)
  | 3, _ =>
    rw [← nxI3 c hc]
    refine r_iload_n dX9_next_0 rfl ?_
    refine r_iconst (v := (nI 4)) dX9_next_1 (by decide) ?_
    refine r_iremN dX9_next_2 (by omega) (by decide) (by decide) ?_
    refine r_iload_n dX9_next_3 rfl ?_
    refine r_iconst (v := (nI 1)) dX9_next_4 (by decide) ?_
    refine r_pc 5 rfl ?_
    refine r_icmp_neN 12 dX9_next_5 (by decide) (by omega) (by omega) (fun h5 => ?_) (fun h5 => ?_)
    · refine r_pc 12 rfl ?_
      refine r_iload_n dX9_next_12 rfl ?_
      refine r_iconst (v := (nI 3)) dX9_next_13 (by decide) ?_
      refine r_icmp_neN 21 dX9_next_14 (by decide) (by omega) (by omega) (fun h14 => ?_) (fun h14 => ?_)
      · exact absurd rfl h14
      · refine r_pc 17 rfl ?_
        refine r_iconst (v := (-1)) dX9_next_17 (by decide) ?_
        refine r_goto 22 dX9_next_18 (by decide) ?_
        refine r_iadd dX9_next_22 ?_
        refine r_istore_n (ls' := [_, _, _, _]) dX9_next_23 (by decide) rfl ?_
        refine r_iload_n dX9_next_24 rfl ?_
        refine r_pc 25 rfl ?_
        refine r_iconst (v := (nI 4)) dX9_next_25 (by decide) ?_
        refine r_idivN dX9_next_26 (by omega) (by decide) (by decide) ?_
        refine r_iload_n dX9_next_27 rfl ?_
        refine r_if_ne 35 dX9_next_28 (by decide) (fun h28 => ?_) (fun h28 => ?_)
        · refine r_pc 35 rfl ?_
          refine r_iload_n dX9_next_35 rfl ?_
          refine r_iconst (v := (nI 2)) dX9_next_36 (by decide) ?_
          refine r_icmp_neN 44 dX9_next_37 (by decide) (by omega) (by omega) (fun h37 => ?_) (fun h37 => ?_)
          · refine r_pc 44 rfl ?_
            refine r_iconst (v := (nI 0)) dX9_next_44 (by decide) ?_
            refine r_iadd dX9_next_45 ?_
            refine r_istore_n (ls' := [_, _, _, _]) dX9_next_46 (by decide) rfl ?_
            refine r_pc 47 rfl ?_
            exact T _ _
          · exact absurd h37 (by decide)
        · exact absurd h28 (by decide)
    · exact absurd h5 (by decide)
section R1
variable {rc rf ro rt ru rm rg : Nat → Int32} {rp rq : Int32} {ry rl : Nat → Int32} {rn ra : Int32} {rw rk : Nat → Int64} {rx rz rd : Nat → Int32} {rM rU rK : Int32} {rT rR : Nat → Int32} {rL rN rA rF : Int32} {rC : Nat → Int64} {rO rB rY rP : Nat → Int32} {rb : Int32}
variable {Q : List AE} {c f : Nat → Nat}
theorem weq_M {rc' rf' ro' rt' ru' rm' rg' ry' : Nat → Int32} (h1 : ∀ j, j < 8 → rc j = rc' j) (h2 : ∀ j, j < 8 → rf j = rf' j) (h3 : ∀ j, j < 16 → ro j = ro' j) (h4 : ∀ j, j < 8 → rt j = rt' j) (h5 : ∀ j, j < 8 → ru j = ru' j) (h6 : ∀ j, j < 8 → rm j = rm' j) (h7 : ∀ j, j < 8 → rg j = rg' j) (h8 : ∀ j, j < 8 → ry j = ry' j) : weq (Q, mW rc rf ro rt ru rm rg rp rq ry rl rn ra rw rk rx rz rd rM rU rK rT rR rL rN rA rF rC rO rB rY rP rb) (Q, mW (rc') (rf') (ro') (rt') (ru') (rm') (rg') rp rq (ry') rl rn ra rw rk rx rz rd rM rU rK rT rR rL rN rA rF rC rO rB rY rP rb) :=
  ⟨leq_rf _, ⟨eeq_rf _, eeq_rf _, eeq_rf _, ⟨rfl, rfl, h1⟩, ⟨rfl, rfl, h2⟩, ⟨rfl, rfl, h3⟩, ⟨rfl, rfl, h4⟩, ⟨rfl, rfl, h5⟩, ⟨rfl, rfl, h6⟩, ⟨rfl, rfl, h7⟩, ⟨rfl, rfl, h8⟩, eeq_rf _, eeq_rf _, eeq_rf _, eeq_rf _, eeq_rf _, eeq_rf _, eeq_rf _, eeq_rf _, eeq_rf _, eeq_rf _, eeq_rf _, eeq_rf _, eeq_rf _, trivial⟩⟩
theorem m_code : Sem mX9_code 1 0 0 [.ref 100] (Q, mW rc rf ro rt ru rm rg rp rq ry rl rn ra rw rk rx rz rd rM rU rK rT rR rL rN rA rF rC rO rB rY rP rb) (some (.long (pkR rc rf 8))) (Q, mW rc rf ro rt ru rm rg rp rq ry rl rn ra rw rk rx rz rd rM rU rK rT rR rL rN rA rF rC rO rB rY rP rb) := by
  refine sem_of (by decide) (Nat.le_of_ble_eq_true rfl) rfl ?_
  have L : ∀ (m i : Nat), i + m = 8 → Rn mX9_code 1 0 0 (Q, mW rc rf ro rt ru rm rg rp rq ry rl rn ra rw rk rx rz rd rM rU rK rT rR rL rN rA rF rC rO rB rY rP rb) (some (.long (pkR rc rf 8))) (Q, mW rc rf ro rt ru rm rg rp rq ry rl rn ra rw rk rx rz rd rM rU rK rT rR rL rN rA rF rC rO rB rY rP rb) 0 0 4 [some (.ref 100), some (.long (pkR rc rf i)), none, some (.int (nI i))] [] (Q, mW rc rf ro rt ru rm rg rp rq ry rl rn ra rw rk rx rz rd rM rU rK rT rR rL rN rA rF rC rO rB rY rP rb) := by
    intro m
    induction m with
    | zero =>
      intro i hi
      have : i = 8 := by omega
      subst this
      refine r_iload_n dX9_code_4 rfl ?_
      refine r_bipush (v := (nI 8)) dX9_code_5 (by decide) ?_
      refine r_icmp_geN 40 dX9_code_7 (by decide) (by omega) (by omega) (fun h7 => ?_) (fun h7 => ?_)
      · refine r_pc 40 rfl ?_
        refine r_lload_n dX9_code_40 rfl ?_
        exact r_lret dX9_code_41 rfl rfl rfl
      · exact absurd h7 (by omega)
    | succ m ih =>
      intro i hi
      refine r_iload_n dX9_code_4 rfl ?_
      refine r_bipush (v := (nI 8)) dX9_code_5 (by decide) ?_
      refine r_icmp_geN 40 dX9_code_7 (by decide) (by omega) (by omega) (fun h7 => ?_) (fun h7 => ?_)
      · exact absurd h7 (by omega)
      · refine r_pc 10 rfl ?_
        refine r_lload_n dX9_code_10 rfl ?_
        refine r_iconst (v := (nI 4)) dX9_code_11 (by decide) ?_
        refine r_aload_n dX9_code_12 rfl ?_
        refine r_get dX9_code_13 fX9_60 rfl rfl ?_
        refine r_iload_n dX9_code_16 rfl ?_
        refine r_pc 17 rfl ?_
        refine r_iald dX9_code_17 rfl rfl (by omega) (by decide) ?_
        refine r_imul dX9_code_18 ?_
        refine r_aload_n dX9_code_19 rfl ?_
        refine r_get dX9_code_20 fX9_64 rfl rfl ?_
        refine r_iload_n dX9_code_23 rfl ?_
        refine r_pc 24 rfl ?_
        refine r_iald dX9_code_24 rfl rfl (by omega) (by decide) ?_
        refine r_iadd dX9_code_25 ?_
        refine r_i2l dX9_code_26 ?_
        refine r_bipush (v := (nI 6)) dX9_code_27 (by decide) ?_
        refine r_iload_n dX9_code_29 rfl ?_
        refine r_pc 30 rfl ?_
        refine r_imulN dX9_code_30 ?_
        refine r_lshl dX9_code_31 ?_
        refine r_lor dX9_code_32 ?_
        refine r_lstore_n (ls' := [_, _, _, _]) dX9_code_33 (by decide) rfl ?_
        refine r_inc1 (ls' := [_, _, _, _]) dX9_code_34 (by decide) rfl rfl ?_
        refine r_pc 37 rfl ?_
        refine r_goto 4 dX9_code_37 (by decide) ?_
        refine r_pc 4 rfl ?_
        exact ih (i + 1) (by omega)
  refine r_lconst (v := 0) dX9_code_0 (by decide) ?_
  refine r_lstore_n (ls' := [_, _, _, _]) dX9_code_1 (by decide) rfl ?_
  refine r_iconst (v := (nI 0)) dX9_code_2 (by decide) ?_
  refine r_istore_n (ls' := [_, _, _, _]) dX9_code_3 (by decide) rfl ?_
  refine r_pc 4 rfl ?_
  exact L 8 0 (by omega)
theorem m_made : Sem mX9_made 1 0 0 [.ref 100] (Q, mW rc rf ro rt ru rm rg rp rq ry rl rn ra rw rk rx rz rd rM rU rK rT rR rL rN rA rF rC rO rB rY rP rb) (some (.long (pkR rt ru 8))) (Q, mW rc rf ro rt ru rm rg rp rq ry rl rn ra rw rk rx rz rd rM rU rK rT rR rL rN rA rF rC rO rB rY rP rb) := by
  refine sem_of (by decide) (Nat.le_of_ble_eq_true rfl) rfl ?_
  have L : ∀ (m i : Nat), i + m = 8 → Rn mX9_made 1 0 0 (Q, mW rc rf ro rt ru rm rg rp rq ry rl rn ra rw rk rx rz rd rM rU rK rT rR rL rN rA rF rC rO rB rY rP rb) (some (.long (pkR rt ru 8))) (Q, mW rc rf ro rt ru rm rg rp rq ry rl rn ra rw rk rx rz rd rM rU rK rT rR rL rN rA rF rC rO rB rY rP rb) 0 0 4 [some (.ref 100), some (.long (pkR rt ru i)), none, some (.int (nI i))] [] (Q, mW rc rf ro rt ru rm rg rp rq ry rl rn ra rw rk rx rz rd rM rU rK rT rR rL rN rA rF rC rO rB rY rP rb) := by
    intro m
    induction m with
    | zero =>
      intro i hi
      have : i = 8 := by omega
      subst this
      refine r_iload_n dX9_made_4 rfl ?_
      refine r_bipush (v := (nI 8)) dX9_made_5 (by decide) ?_
      refine r_icmp_geN 40 dX9_made_7 (by decide) (by omega) (by omega) (fun h7 => ?_) (fun h7 => ?_)
      · refine r_pc 40 rfl ?_
        refine r_lload_n dX9_made_40 rfl ?_
        exact r_lret dX9_made_41 rfl rfl rfl
      · exact absurd h7 (by omega)
    | succ m ih =>
      intro i hi
      refine r_iload_n dX9_made_4 rfl ?_
      refine r_bipush (v := (nI 8)) dX9_made_5 (by decide) ?_
      refine r_icmp_geN 40 dX9_made_7 (by decide) (by omega) (by omega) (fun h7 => ?_) (fun h7 => ?_)
      · exact absurd h7 (by omega)
      · refine r_pc 10 rfl ?_
        refine r_lload_n dX9_made_10 rfl ?_
        refine r_iconst (v := (nI 4)) dX9_made_11 (by decide) ?_
        refine r_aload_n dX9_made_12 rfl ?_
        refine r_get dX9_made_13 fX9_70 rfl rfl ?_
        refine r_iload_n dX9_made_16 rfl ?_
        refine r_pc 17 rfl ?_
        refine r_iald dX9_made_17 rfl rfl (by omega) (by decide) ?_
        refine r_imul dX9_made_18 ?_
        refine r_aload_n dX9_made_19 rfl ?_
        refine r_get dX9_made_20 fX9_73 rfl rfl ?_
        refine r_iload_n dX9_made_23 rfl ?_
        refine r_pc 24 rfl ?_
        refine r_iald dX9_made_24 rfl rfl (by omega) (by decide) ?_
        refine r_iadd dX9_made_25 ?_
        refine r_i2l dX9_made_26 ?_
        refine r_bipush (v := (nI 6)) dX9_made_27 (by decide) ?_
        refine r_iload_n dX9_made_29 rfl ?_
        refine r_pc 30 rfl ?_
        refine r_imulN dX9_made_30 ?_
        refine r_lshl dX9_made_31 ?_
        refine r_lor dX9_made_32 ?_
        refine r_lstore_n (ls' := [_, _, _, _]) dX9_made_33 (by decide) rfl ?_
        refine r_inc1 (ls' := [_, _, _, _]) dX9_made_34 (by decide) rfl rfl ?_
        refine r_pc 37 rfl ?_
        refine r_goto 4 dX9_made_37 (by decide) ?_
        refine r_pc 4 rfl ?_
        exact ih (i + 1) (by omega)
  refine r_lconst (v := 0) dX9_made_0 (by decide) ?_
  refine r_lstore_n (ls' := [_, _, _, _]) dX9_made_1 (by decide) rfl ?_
  refine r_iconst (v := (nI 0)) dX9_made_2 (by decide) ?_
  refine r_istore_n (ls' := [_, _, _, _]) dX9_made_3 (by decide) rfl ?_
  refine r_pc 4 rfl ?_
  exact L 8 0 (by omega)
theorem m_looks (q : Int64) : Sem mX9_looks 1 0 0 [.ref 100, .long q] (Q, mW rc rf ro rt ru rm rg rp rq ry rl rn ra rw rk rx rz rd rM rU rK rT rR rL rN rA rF rC rO rB rY rP rb) none (Q, mW (fun j => nI (rqc q j)) (fun j => nI (rqf q j)) (fun x => stN (who (rqc q) 8 x)) rt ru rm rg rp rq ry rl rn ra rw rk rx rz rd rM rU rK rT rR rL rN rA rF rC rO rB rY rP rb) := by
  refine sem_of (by decide) (Nat.le_of_ble_eq_true rfl) rfl ?_
  generalize hw0 : (Q, mW rc rf ro rt ru rm rg rp rq ry rl rn ra rw rk rx rz rd rM rU rK rT rR rL rN rA rF rC rO rB rY rP rb) = w0
  have L2 : ∀ (m i : Nat) (rc rf ro : Nat → Int32) (y4 : Option Value), i + m = 8 → (∀ j, j < i → rc j = nI (rqc q j)) → (∀ j, j < i → rf j = nI (rqf q j)) → (∀ x, x < 16 → ro x = stN (who (rqc q) i x)) → Rn mX9_looks 1 0 0 w0 none (Q, mW (fun j => nI (rqc q j)) (fun j => nI (rqf q j)) (fun x => stN (who (rqc q) 8 x)) rt ru rm rg rp rq ry rl rn ra rw rk rx rz rd rM rU rK rT rR rL rN rA rF rC rO rB rY rP rb) 0 0 24 [some (.ref 100), some (.long q), none, some (.int (nI i)), y4] [] (Q, mW rc rf ro rt ru rm rg rp rq ry rl rn ra rw rk rx rz rd rM rU rK rT rR rL rN rA rF rC rO rB rY rP rb) := by
    intro m
    induction m with
    | zero =>
      intro i rc rf ro y4 hi h1 h2 h3
      have : i = 8 := by omega
      subst this
      refine r_weq _ (weq_M h1 h2 h3 (fun _ _ => rfl) (fun _ _ => rfl) (fun _ _ => rfl) (fun _ _ => rfl) (fun _ _ => rfl)) ?_
      refine r_iload_n dX9_looks_24 rfl ?_
      refine r_bipush (v := (nI 8)) dX9_looks_25 (by decide) ?_
      refine r_icmp_geN 80 dX9_looks_27 (by decide) (by omega) (by omega) (fun h27 => ?_) (fun h27 => ?_)
      · refine r_pc 80 rfl ?_
        exact r_vret dX9_looks_80 rfl rfl rfl
      · exact absurd h27 (by omega)
    | succ m ih =>
      intro i rc rf ro y4 hi h1 h2 h3
      have hi8 : i < 8 := by omega
      have hn := rqn_lt q i
      have hus : upd rc i (nI (rqc q i)) i = nI (rqc q i) := pk_us
      refine r_iload_n dX9_looks_24 rfl ?_
      refine r_bipush (v := (nI 8)) dX9_looks_25 (by decide) ?_
      refine r_icmp_geN 80 dX9_looks_27 (by decide) (by omega) (by omega) (fun h27 => ?_) (fun h27 => ?_)
      · exact absurd h27 (by omega)
      · refine r_pc 30 rfl ?_
        refine r_lload_n dX9_looks_30 rfl ?_
        refine r_bipush (v := (nI 6)) dX9_looks_31 (by decide) ?_
        refine r_iload_n dX9_looks_33 rfl ?_
        refine r_imulN dX9_looks_34 ?_
        refine r_lshr dX9_looks_35 ?_
        refine r_pc 36 rfl ?_
        refine r_l2i dX9_looks_36 ?_
        refine r_bipush (v := (nI 63)) dX9_looks_37 (by decide) ?_
        refine r_iand dX9_looks_39 ?_
        refine r_topi _ (rqn_eq q i) ?_
        refine r_istore (ls' := [_, _, _, _, _]) dX9_looks_40 (by decide) rfl ?_
        refine r_aload_n dX9_looks_42 rfl ?_
        refine r_pc 43 rfl ?_
        refine r_get dX9_looks_43 fX9_60 rfl rfl ?_
        refine r_iload_n dX9_looks_46 rfl ?_
        refine r_iload dX9_looks_47 rfl ?_
        refine r_iconst (v := (nI 4)) dX9_looks_49 (by decide) ?_
        refine r_idivN dX9_looks_50 (by omega) (by decide) (by decide) ?_
        refine r_pc 51 rfl ?_
        refine r_topi (nI (rqc q i)) rfl ?_
        refine r_iast (w2 := (_, mW _ _ _ _ _ _ _ _ _ _ _ _ _ _ _ _ _ _ _ _ _ _ _ _ _ _ _ _ _ _ _ _ _)) dX9_looks_51 rfl rfl hi8 (by decide) rfl ?_
        refine r_aload_n dX9_looks_52 rfl ?_
        refine r_get dX9_looks_53 fX9_64 rfl rfl ?_
        refine r_iload_n dX9_looks_56 rfl ?_
        refine r_iload dX9_looks_57 rfl ?_
        refine r_pc 59 rfl ?_
        refine r_iconst (v := (nI 4)) dX9_looks_59 (by decide) ?_
        refine r_iremN dX9_looks_60 (by omega) (by decide) (by decide) ?_
        refine r_topi (nI (rqf q i)) rfl ?_
        refine r_iast (w2 := (_, mW _ _ _ _ _ _ _ _ _ _ _ _ _ _ _ _ _ _ _ _ _ _ _ _ _ _ _ _ _ _ _ _ _)) dX9_looks_61 rfl rfl hi8 (by decide) rfl ?_
        refine r_aload_n dX9_looks_62 rfl ?_
        refine r_get dX9_looks_63 fX9_67 rfl rfl ?_
        refine r_pc 66 rfl ?_
        refine r_aload_n dX9_looks_66 rfl ?_
        refine r_get dX9_looks_67 fX9_60 rfl rfl ?_
        refine r_iload_n dX9_looks_70 rfl ?_
        refine r_iald dX9_looks_71 rfl rfl hi8 (by decide) ?_
        refine r_topi _ hus ?_
        refine r_iload_n dX9_looks_72 rfl ?_
        refine r_pc 73 rfl ?_
        refine r_iast (w2 := (_, mW _ _ _ _ _ _ _ _ _ _ _ _ _ _ _ _ _ _ _ _ _ _ _ _ _ _ _ _ _ _ _ _ _)) dX9_looks_73 rfl rfl (rqc_lt q i) (by decide) rfl ?_
        refine r_inc1 (ls' := [_, _, _, _, _]) dX9_looks_74 (by decide) rfl rfl ?_
        refine r_goto 24 dX9_looks_77 (by decide) ?_
        refine r_pc 24 rfl ?_
        exact ih (i + 1) _ _ _ _ (by omega) (upd_lt h1 rfl) (upd_lt h2 rfl) (whoM_step h3)
  have L1 : ∀ (m i : Nat) (ro : Nat → Int32), i + m = 16 → (∀ j, j < i → ro j = -2) → Rn mX9_looks 1 0 0 w0 none (Q, mW (fun j => nI (rqc q j)) (fun j => nI (rqf q j)) (fun x => stN (who (rqc q) 8 x)) rt ru rm rg rp rq ry rl rn ra rw rk rx rz rd rM rU rK rT rR rL rN rA rF rC rO rB rY rP rb) 0 0 2 [some (.ref 100), some (.long q), none, some (.int (nI i)), none] [] (Q, mW rc rf ro rt ru rm rg rp rq ry rl rn ra rw rk rx rz rd rM rU rK rT rR rL rN rA rF rC rO rB rY rP rb) := by
    intro m
    induction m with
    | zero =>
      intro i ro hi h1
      refine r_iload_n dX9_looks_2 rfl ?_
      refine r_bipush (v := (nI 16)) dX9_looks_3 (by decide) ?_
      refine r_icmp_geN 22 dX9_looks_5 (by decide) (by omega) (by omega) (fun h5 => ?_) (fun h5 => ?_)
      · refine r_pc 22 rfl ?_
        refine r_iconst (v := (nI 0)) dX9_looks_22 (by decide) ?_
        refine r_istore_n (ls' := [_, _, _, _, _]) dX9_looks_23 (by decide) rfl ?_
        refine r_pc 24 rfl ?_
        exact L2 8 0 _ _ _ _ (by omega) (fun j h => absurd h (by omega)) (fun j h => absurd h (by omega)) (fun x hx => h1 x (by omega))
      · exact absurd h5 (by omega)
    | succ m ih =>
      intro i ro hi h1
      refine r_iload_n dX9_looks_2 rfl ?_
      refine r_bipush (v := (nI 16)) dX9_looks_3 (by decide) ?_
      refine r_icmp_geN 22 dX9_looks_5 (by decide) (by omega) (by omega) (fun h5 => ?_) (fun h5 => ?_)
      · exact absurd h5 (by omega)
      · refine r_pc 8 rfl ?_
        refine r_aload_n dX9_looks_8 rfl ?_
        refine r_get dX9_looks_9 fX9_67 rfl rfl ?_
        refine r_iload_n dX9_looks_12 rfl ?_
        refine r_bipush (v := (-2)) dX9_looks_13 (by decide) ?_
        refine r_iast (w2 := (_, mW _ _ _ _ _ _ _ _ _ _ _ _ _ _ _ _ _ _ _ _ _ _ _ _ _ _ _ _ _ _ _ _ _)) dX9_looks_15 rfl rfl (by omega) (by decide) rfl ?_
        refine r_pc 16 rfl ?_
        refine r_inc1 (ls' := [_, _, _, _, _]) dX9_looks_16 (by decide) rfl rfl ?_
        refine r_goto 2 dX9_looks_19 (by decide) ?_
        refine r_pc 2 rfl ?_
        exact ih (i + 1) _ (by omega) (upd_lt (g := fun _ => -2) h1 rfl)
  subst hw0
  refine r_iconst (v := (nI 0)) dX9_looks_0 (by decide) ?_
  refine r_istore_n (ls' := [_, _, _, _, _]) dX9_looks_1 (by decide) rfl ?_
  refine r_pc 2 rfl ?_
  exact L1 16 0 _ (by omega) (fun j h => absurd h (by omega))
theorem m_looksNow {n : Nat} (hn : n ≤ 200) : Sem mX9_looksNow 2 0 0 [.ref 100] (Q, mW rc rf ro rt ru rm rg rp rq ry rl rn ra rw rk rx rz rd (nI n) rU rK rT rR rL rN rA rF rC rO rB rY rP rb) none (Q, mW (fun j => nI (rqc (rw n) j)) (fun j => nI (rqf (rw n) j)) (fun x => stN (who (rqc (rw n)) 8 x)) rt ru rm rg rp rq ry rl rn ra rw rk rx rz rd (nI n) rU rK rT rR rL rN rA rF rC rO rB rY rP rb) := by
  refine sem_of (by decide) (Nat.le_of_ble_eq_true rfl) rfl ?_
  refine r_aload_n dX9_looksNow_0 rfl ?_
  refine r_aload_n dX9_looksNow_1 rfl ?_
  refine r_get dX9_looksNow_2 fX9_89 rfl rfl ?_
  refine r_aload_n dX9_looksNow_5 rfl ?_
  refine r_get dX9_looksNow_6 fX9_144 rfl rfl ?_
  refine r_pc 9 rfl ?_
  refine r_lald dX9_looksNow_9 rfl rfl (by omega) (by decide) ?_
  refine r_cVv dX9_looksNow_10 (m_looks _) lX9_140 rfl rfl rfl (by decide) ⟨Nat.le_refl _, Nat.le_refl _⟩ (Nat.le_of_ble_eq_true rfl) ?_
  exact r_vret dX9_looksNow_13 rfl rfl rfl
theorem m_beside {d r : Nat} (hd : d < 8) (hr : r < 4) (hS : Sq rc rf c f) (hs : SdM ro c) : Sem mX9_beside 3 0 0 [.ref 100, .int (nI d), .int (nI r)] (Q, mW rc rf ro rt ru rm rg rp rq ry rl rn ra rw rk rx rz rd rM rU rK rT rR rL rN rA rF rC rO rB rY rP rb) (some (.int (stN (bes c f d r)))) (Q, mW rc rf ro rt ru rm rg rp rq ry rl rn ra rw rk rx rz rd rM rU rK rT rR rL rN rA rF rC rO rB rY rP rb) := by
  refine sem_of (by decide) (Nat.le_of_ble_eq_true rfl) rfl ?_
  obtain ⟨e1, h1, e2, h2⟩ := hS d hd
  have hm : (f d + r) % 4 < 4 := Nat.mod_lt _ (by decide)
  unfold bes
  cases hn : nb (c d) ((f d + r) % 4) with
  | none =>
    refine r_aload_n dX9_beside_0 rfl ?_
    refine r_get dX9_beside_1 fX9_60 rfl rfl ?_
    refine r_iload_n dX9_beside_4 rfl ?_
    refine r_iald dX9_beside_5 rfl rfl hd (by decide) ?_
    refine r_topi _ e1 ?_
    refine r_aload_n dX9_beside_6 rfl ?_
    refine r_pc 7 rfl ?_
    refine r_get dX9_beside_7 fX9_64 rfl rfl ?_
    refine r_iload_n dX9_beside_10 rfl ?_
    refine r_iald dX9_beside_11 rfl rfl hd (by decide) ?_
    refine r_topi _ e2 ?_
    refine r_iload_n dX9_beside_12 rfl ?_
    refine r_iaddN dX9_beside_13 ?_
    refine r_pc 14 rfl ?_
    refine r_iconst (v := (nI 4)) dX9_beside_14 (by decide) ?_
    refine r_iremN dX9_beside_15 (by omega) (by decide) (by decide) ?_
    refine r_cS dX9_beside_16 (m_next _ h1 hm) lX9_151 rfl rfl (by decide) ⟨Nat.le_refl _, Nat.le_refl _⟩ (Nat.le_of_ble_eq_true rfl) ?_
    rw [hn]
    refine r_istore_n (ls' := [_, _, _, _]) dX9_beside_19 (by decide) rfl ?_
    refine r_iload_n dX9_beside_20 rfl ?_
    refine r_pc 21 rfl ?_
    refine r_if_ge 29 dX9_beside_21 (by decide) (fun h21 => ?_) (fun h21 => ?_)
    · exact absurd h21 (by decide)
    · refine r_pc 24 rfl ?_
      refine r_bipush (v := (-2)) dX9_beside_24 (by decide) ?_
      refine r_goto 35 dX9_beside_26 (by decide) ?_
      exact r_iret dX9_beside_35 rfl rfl rfl
  | some x =>
    have hx := nb_lt h1 hm hn
    refine r_aload_n dX9_beside_0 rfl ?_
    refine r_get dX9_beside_1 fX9_60 rfl rfl ?_
    refine r_iload_n dX9_beside_4 rfl ?_
    refine r_iald dX9_beside_5 rfl rfl hd (by decide) ?_
    refine r_topi _ e1 ?_
    refine r_aload_n dX9_beside_6 rfl ?_
    refine r_pc 7 rfl ?_
    refine r_get dX9_beside_7 fX9_64 rfl rfl ?_
    refine r_iload_n dX9_beside_10 rfl ?_
    refine r_iald dX9_beside_11 rfl rfl hd (by decide) ?_
    refine r_topi _ e2 ?_
    refine r_iload_n dX9_beside_12 rfl ?_
    refine r_iaddN dX9_beside_13 ?_
    refine r_pc 14 rfl ?_
    refine r_iconst (v := (nI 4)) dX9_beside_14 (by decide) ?_
    refine r_iremN dX9_beside_15 (by omega) (by decide) (by decide) ?_
    refine r_cS dX9_beside_16 (m_next _ h1 hm) lX9_151 rfl rfl (by decide) ⟨Nat.le_refl _, Nat.le_refl _⟩ (Nat.le_of_ble_eq_true rfl) ?_
    rw [hn]
    refine r_istore_n (ls' := [_, _, _, _]) dX9_beside_19 (by decide) rfl ?_
    refine r_iload_n dX9_beside_20 rfl ?_
    refine r_pc 21 rfl ?_
    refine r_if_ge 29 dX9_beside_21 (by decide) (fun h21 => ?_) (fun h21 => ?_)
    · refine r_pc 29 rfl ?_
      refine r_aload_n dX9_beside_29 rfl ?_
      refine r_get dX9_beside_30 fX9_67 rfl rfl ?_
      refine r_iload_n dX9_beside_33 rfl ?_
      refine r_iald dX9_beside_34 rfl rfl hx (by decide) ?_
      rw [hs x hx]
      exact r_iret dX9_beside_35 rfl rfl rfl
    · exact absurd (nI_pos' (by omega)) h21
theorem m_turns {d r : Nat} (hd : d < 8) (hr : r < 4) (hS : Sq rc rf c f) : Sem mX9_turns 1 0 0 [.ref 100, .int (nI d), .int (nI r)] (Q, mW rc rf ro rt ru rm rg rp rq ry rl rn ra rw rk rx rz rd rM rU rK rT rR rL rN rA rF rC rO rB rY rP rb) none (Q, mW rc rf ro rt (upd ru d (nI ((f d + r) % 4))) rm rg rp rq ry rl rn ra rw rk rx rz rd rM rU rK rT rR rL rN rA rF rC rO rB rY rP rb) := by
  refine sem_of (by decide) (Nat.le_of_ble_eq_true rfl) rfl ?_
  obtain ⟨-, -, e1, h1⟩ := hS d hd
  refine r_aload_n dX9_turns_0 rfl ?_
  refine r_get dX9_turns_1 fX9_73 rfl rfl ?_
  refine r_iload_n dX9_turns_4 rfl ?_
  refine r_aload_n dX9_turns_5 rfl ?_
  refine r_get dX9_turns_6 fX9_64 rfl rfl ?_
  refine r_pc 9 rfl ?_
  refine r_iload_n dX9_turns_9 rfl ?_
  refine r_iald dX9_turns_10 rfl rfl hd (by decide) ?_
  refine r_pc 11 rfl ?_
  refine r_topi _ e1 ?_
  refine r_iload_n dX9_turns_11 rfl ?_
  refine r_iaddN dX9_turns_12 ?_
  refine r_iconst (v := (nI 4)) dX9_turns_13 (by decide) ?_
  refine r_iremN dX9_turns_14 (by omega) (by decide) (by decide) ?_
  refine r_iast (w2 := (_, mW _ _ _ _ _ _ _ _ _ _ _ _ _ _ _ _ _ _ _ _ _ _ _ _ _ _ _ _ _ _ _ _ _)) dX9_turns_15 rfl rfl hd (by decide) rfl ?_
  refine r_pc 16 rfl ?_
  exact r_vret dX9_turns_16 rfl rfl rfl
theorem m_goesTo {d : Nat} {x : Int32} (hd : d < 8) : Sem mX9_goesTo 1 0 0 [.ref 100, .int (nI d), .int x] (Q, mW rc rf ro rt ru rm rg rp rq ry rl rn ra rw rk rx rz rd rM rU rK rT rR rL rN rA rF rC rO rB rY rP rb) none (Q, mW rc rf ro (upd rt d x) ru rm (upd rg d (nI 1)) rp rq ry rl rn ra rw rk rx rz rd rM rU rK rT rR rL rN rA rF rC rO rB rY rP rb) := by
  refine sem_of (by decide) (Nat.le_of_ble_eq_true rfl) rfl ?_
  have e : vp_nar .boolean (nI 1) = nI 1 := by decide
  refine r_w (Q, mW rc rf ro rt ru rm rg rp rq ry rl rn ra rw rk rx rz rd rM rU rK rT rR rL rN rA rF rC rO rB rY rP rb) rfl ?_
  refine r_aload_n dX9_goesTo_0 rfl ?_
  refine r_get dX9_goesTo_1 fX9_79 rfl rfl ?_
  refine r_iload_n dX9_goesTo_4 rfl ?_
  refine r_iconst (v := (nI 1)) dX9_goesTo_5 (by decide) ?_
  refine r_pc 6 rfl ?_
  refine r_zast (w2 := (Q, mW rc rf ro rt ru rm (upd rg d (nI 1)) rp rq ry rl rn ra rw rk rx rz rd rM rU rK rT rR rL rN rA rF rC rO rB rY rP rb)) dX9_goesTo_6 rfl rfl hd (by decide) (by rw [e]; rfl) ?_
  refine r_aload_n dX9_goesTo_7 rfl ?_
  refine r_get dX9_goesTo_8 fX9_70 rfl rfl ?_
  refine r_iload_n dX9_goesTo_11 rfl ?_
  refine r_iload_n dX9_goesTo_12 rfl ?_
  refine r_iast (w2 := (_, mW _ _ _ _ _ _ _ _ _ _ _ _ _ _ _ _ _ _ _ _ _ _ _ _ _ _ _ _ _ _ _ _ _)) dX9_goesTo_13 rfl rfl hd (by decide) rfl ?_
  refine r_pc 14 rfl ?_
  exact r_vret dX9_goesTo_14 rfl rfl rfl
end R1
