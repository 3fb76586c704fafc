/-! ===== the reference: who is meant, pairs ===== -/
theorem grp_bits : ∀ n, n < 5 → ∀ d, d < 8 → decide ((([255, 51, 204, 85, 170] : List Int32).getD n 0) >>> (nI d &&& 31) &&& nI 1 = nI 1) = mnt (fun _ => 0) (fun _ => 0) n d := by decide +kernel
theorem mnt_grp {c f c' f' : Nat → Nat} {n d : Nat} (hn : n < 5) : mnt c f n d = mnt c' f' n d := by
  match n, hn with
  | 0, _ => rfl
  | 1, _ => rfl
  | 2, _ => rfl
  | 3, _ => rfl
  | 4, _ => rfl
theorem cenI (c : Nat) : (decide (¬ nI (c % 4) < nI 1 ∧ ¬ nI 2 < nI (c % 4)) && decide (¬ nI (c / 4) < nI 1 ∧ ¬ nI 2 < nI (c / 4))) = cen c ∨ 2 ^ 31 ≤ c := by
  by_cases h : 2 ^ 31 ≤ c
  · exact Or.inr h
  · refine Or.inl ?_
    have e1 : (¬ nI (c % 4) < nI 1 ∧ ¬ nI 2 < nI (c % 4)) ↔ (1 ≤ c % 4 ∧ c % 4 ≤ 2) := by
      rw [nI_ltI (by omega) (by decide), nI_ltI (by decide) (by omega)]
      omega
    have e2 : (¬ nI (c / 4) < nI 1 ∧ ¬ nI 2 < nI (c / 4)) ↔ (1 ≤ c / 4 ∧ c / 4 ≤ 2) := by
      rw [nI_ltI (by omega) (by decide), nI_ltI (by decide) (by omega)]
      omega
    rw [decide_eq_decide.mpr e1, decide_eq_decide.mpr e2]
    unfold cen
    rw [← Bool.decide_and]
    exact decide_eq_decide.mpr (by omega)
section R2
variable {rc rf ro rt ru rm rg : Nat → Int32} {rp rq : Int32} {ry rl : Nat → Int32} {rn ra : Int32} {rw rk : Nat → Int64} {rx rz rd : Nat → Int32} {rM rU rK : Int32} {rT rR : Nat → Int32} {rL rN rA rF : Int32} {rC : Nat → Int64} {rO rB rY rP : Nat → Int32} {rb : Int32}
variable {Q : List AE} {c f : Nat → Nat}
theorem m_isMeant {d n : Nat} (hd : d < 8) (hn : n < 9) (hS : Sq rc rf c f) (hs : SdM ro c) : Sem mX9_isMeant 4 0 0 [.ref 100, .int (nI d), .int (nI n)] (Q, mW rc rf ro rt ru rm rg rp rq ry rl rn ra rw rk rx rz rd rM rU rK rT rR rL rN rA rF rC rO rB rY rP rb) (some (.int (bI (mnt c f n d)))) (Q, mW rc rf ro rt ru rm rg rp rq ry rl rn ra rw rk rx rz rd rM rU rK rT rR rL rN rA rF rC rO rB rY rP rb) := by
  refine sem_of (by decide) (Nat.le_of_ble_eq_true rfl) rfl ?_
  obtain ⟨e1, b1, e2, b2⟩ := hS d hd
  by_cases h5 : n < 5
  · have hh := m_has (Q, mW rc rf ro rt ru rm rg rp rq ry rl rn ra rw rk rx rz rd rM rU rK rT rR rL rN rA rF rC rO rB rY rP rb) (([255, 51, 204, 85, 170] : List Int32).getD n 0) (nI d)
    rw [grp_bits n h5 d hd, mnt_grp (c' := c) (f' := f) h5] at hh
    refine r_iload_n dX9_isMeant_0 rfl ?_
    refine r_iconst (v := (nI 5)) dX9_isMeant_1 (by decide) ?_
    refine r_icmp_geN 15 dX9_isMeant_2 (by decide) (by omega) (by omega) (fun h2 => ?_) (fun h2 => ?_)
    · exact absurd h2 (by omega)
    · refine r_pc 5 rfl ?_
      refine r_gets (a := 7) dX9_isMeant_5 rfl sX9_155 ?_
      refine r_iload_n dX9_isMeant_8 rfl ?_
      refine r_cald (v := (([255, 51, 204, 85, 170] : List Int32).getD n 0)) 7 rfl (Or.inl ⟨dX9_isMeant_9, rfl⟩) rfl h5 (by decide) rfl ?_
      refine r_iload_n dX9_isMeant_10 rfl ?_
      refine r_cS dX9_isMeant_11 hh lX9_158 rfl rfl (by decide) ⟨Nat.le_refl _, Nat.le_refl _⟩ (Nat.le_of_ble_eq_true rfl) ?_
      refine r_pc 14 rfl ?_
      exact r_zret dX9_isMeant_14 rfl (by cases mnt c f n d <;> rfl) rfl rfl
  · by_cases h7 : n < 7
    · have hc := (cenI (c d)).resolve_right (by omega)
      have hmn : mnt c f n d = (if n = 5 then cen (c d) else !cen (c d)) := by
        rcases (show n = 5 ∨ n = 6 by omega) with rfl | rfl <;> rfl
      rw [hmn]
      have G : ∀ b : Bool, cen (c d) = b → Rn mX9_isMeant 4 0 0 (Q, mW rc rf ro rt ru rm rg rp rq ry rl rn ra rw rk rx rz rd rM rU rK rT rR rL rN rA rF rC rO rB rY rP rb) (some (.int (bI (if n = 5 then b else !b)))) (Q, mW rc rf ro rt ru rm rg rp rq ry rl rn ra rw rk rx rz rd rM rU rK rT rR rL rN rA rF rC rO rB rY rP rb) 0 0 58 [some (.ref 100), some (.int (nI d)), some (.int (nI n)), none] [.int (bI b)] (Q, mW rc rf ro rt ru rm rg rp rq ry rl rn ra rw rk rx rz rd rM rU rK rT rR rL rN rA rF rC rO rB rY rP rb) := by
        intro b hb
        by_cases hn5 : n = 5
        · rw [if_pos hn5]
          cases b with
          | true =>
            refine r_istore_n (ls' := [_, _, _, _]) dX9_isMeant_58 (by decide) rfl ?_
            refine r_iload_n dX9_isMeant_59 rfl ?_
            refine r_iload_n dX9_isMeant_60 rfl ?_
            refine r_iconst (v := (nI 5)) dX9_isMeant_61 (by decide) ?_
            refine r_icmp_neN 69 dX9_isMeant_62 (by decide) (by omega) (by omega) (fun h62 => ?_) (fun h62 => ?_)
            · exact absurd hn5 h62
            · refine r_pc 65 rfl ?_
              refine r_iconst (v := (nI 1)) dX9_isMeant_65 (by decide) ?_
              refine r_goto 70 dX9_isMeant_66 (by decide) ?_
              refine r_icmp_ne 77 dX9_isMeant_70 (by decide) (fun h70 => ?_) (fun h70 => ?_)
              · exact absurd rfl h70
              · refine r_pc 73 rfl ?_
                refine r_iconst (v := (nI 1)) dX9_isMeant_73 (by decide) ?_
                refine r_goto 78 dX9_isMeant_74 (by decide) ?_
                exact r_zret dX9_isMeant_78 rfl rfl rfl rfl
          | false =>
            refine r_istore_n (ls' := [_, _, _, _]) dX9_isMeant_58 (by decide) rfl ?_
            refine r_iload_n dX9_isMeant_59 rfl ?_
            refine r_iload_n dX9_isMeant_60 rfl ?_
            refine r_iconst (v := (nI 5)) dX9_isMeant_61 (by decide) ?_
            refine r_icmp_neN 69 dX9_isMeant_62 (by decide) (by omega) (by omega) (fun h62 => ?_) (fun h62 => ?_)
            · exact absurd hn5 h62
            · refine r_pc 65 rfl ?_
              refine r_iconst (v := (nI 1)) dX9_isMeant_65 (by decide) ?_
              refine r_goto 70 dX9_isMeant_66 (by decide) ?_
              refine r_icmp_ne 77 dX9_isMeant_70 (by decide) (fun h70 => ?_) (fun h70 => ?_)
              · refine r_pc 77 rfl ?_
                refine r_iconst (v := (nI 0)) dX9_isMeant_77 (by decide) ?_
                exact r_zret dX9_isMeant_78 rfl rfl rfl rfl
              · exact absurd h70 (by decide)
        · rw [if_neg hn5]
          cases b with
          | true =>
            refine r_istore_n (ls' := [_, _, _, _]) dX9_isMeant_58 (by decide) rfl ?_
            refine r_iload_n dX9_isMeant_59 rfl ?_
            refine r_iload_n dX9_isMeant_60 rfl ?_
            refine r_iconst (v := (nI 5)) dX9_isMeant_61 (by decide) ?_
            refine r_icmp_neN 69 dX9_isMeant_62 (by decide) (by omega) (by omega) (fun h62 => ?_) (fun h62 => ?_)
            · refine r_pc 69 rfl ?_
              refine r_iconst (v := (nI 0)) dX9_isMeant_69 (by decide) ?_
              refine r_icmp_ne 77 dX9_isMeant_70 (by decide) (fun h70 => ?_) (fun h70 => ?_)
              · refine r_pc 77 rfl ?_
                refine r_iconst (v := (nI 0)) dX9_isMeant_77 (by decide) ?_
                exact r_zret dX9_isMeant_78 rfl rfl rfl rfl
              · exact absurd h70 (by decide)
            · exact absurd h62 hn5
          | false =>
            refine r_istore_n (ls' := [_, _, _, _]) dX9_isMeant_58 (by decide) rfl ?_
            refine r_iload_n dX9_isMeant_59 rfl ?_
            refine r_iload_n dX9_isMeant_60 rfl ?_
            refine r_iconst (v := (nI 5)) dX9_isMeant_61 (by decide) ?_
            refine r_icmp_neN 69 dX9_isMeant_62 (by decide) (by omega) (by omega) (fun h62 => ?_) (fun h62 => ?_)
            · refine r_pc 69 rfl ?_
              refine r_iconst (v := (nI 0)) dX9_isMeant_69 (by decide) ?_
              refine r_icmp_ne 77 dX9_isMeant_70 (by decide) (fun h70 => ?_) (fun h70 => ?_)
              · exact absurd rfl h70
              · refine r_pc 73 rfl ?_
                refine r_iconst (v := (nI 1)) dX9_isMeant_73 (by decide) ?_
                refine r_goto 78 dX9_isMeant_74 (by decide) ?_
                exact r_zret dX9_isMeant_78 rfl rfl rfl rfl
            · exact absurd h62 hn5
      cases h1 : decide (¬ nI (c d % 4) < nI 1 ∧ ¬ nI 2 < nI (c d % 4)) with
      | false =>
        have hf : cen (c d) = false := by rw [← hc, h1]; rfl
        have G := G false hf
        rw [hf]
        refine r_iload_n dX9_isMeant_0 rfl ?_
        refine r_iconst (v := (nI 5)) dX9_isMeant_1 (by decide) ?_
        refine r_icmp_geN 15 dX9_isMeant_2 (by decide) (by omega) (by omega) (fun h2 => ?_) (fun h2 => ?_)
        · refine r_pc 15 rfl ?_
          refine r_iload_n dX9_isMeant_15 rfl ?_
          refine r_bipush (v := (nI 7)) dX9_isMeant_16 (by decide) ?_
          refine r_icmp_geN 79 dX9_isMeant_18 (by decide) (by omega) (by omega) (fun h18 => ?_) (fun h18 => ?_)
          · exact absurd h18 (by omega)
          · refine r_pc 21 rfl ?_
            refine r_aload_n dX9_isMeant_21 rfl ?_
            refine r_get dX9_isMeant_22 fX9_60 rfl rfl ?_
            refine r_iload_n dX9_isMeant_25 rfl ?_
            refine r_iald dX9_isMeant_26 rfl rfl hd (by decide) ?_
            refine r_topi _ e1 ?_
            refine r_iconst (v := (nI 4)) dX9_isMeant_27 (by decide) ?_
            refine r_pc 28 rfl ?_
            refine r_iremN dX9_isMeant_28 (by omega) (by decide) (by decide) ?_
            refine r_iconst (v := (nI 1)) dX9_isMeant_29 (by decide) ?_
            refine r_iconst (v := (nI 2)) dX9_isMeant_30 (by decide) ?_
            refine r_cS dX9_isMeant_31 (m_isIn _ _ _ _) lX9_147 rfl rfl (by decide) ⟨Nat.le_refl _, Nat.le_refl _⟩ (Nat.le_of_ble_eq_true rfl) ?_
            rw [h1]
            refine r_if_eq 57 dX9_isMeant_34 (by decide) (fun h34 => ?_) (fun h34 => ?_)
            · refine r_pc 57 rfl ?_
              refine r_iconst (v := (nI 0)) dX9_isMeant_57 (by decide) ?_
              refine r_pc 58 rfl ?_
              exact G
            · exact absurd rfl h34
        · exact absurd h2 (by omega)
      | true =>
        cases hd2 : decide (¬ nI (c d / 4) < nI 1 ∧ ¬ nI 2 < nI (c d / 4)) with
        | false =>
          have hf : cen (c d) = false := by rw [← hc, h1, hd2]; rfl
          have G := G false hf
          rw [hf]
          refine r_iload_n dX9_isMeant_0 rfl ?_
          refine r_iconst (v := (nI 5)) dX9_isMeant_1 (by decide) ?_
          refine r_icmp_geN 15 dX9_isMeant_2 (by decide) (by omega) (by omega) (fun h2 => ?_) (fun h2 => ?_)
          · refine r_pc 15 rfl ?_
            refine r_iload_n dX9_isMeant_15 rfl ?_
            refine r_bipush (v := (nI 7)) dX9_isMeant_16 (by decide) ?_
            refine r_icmp_geN 79 dX9_isMeant_18 (by decide) (by omega) (by omega) (fun h18 => ?_) (fun h18 => ?_)
            · exact absurd h18 (by omega)
            · refine r_pc 21 rfl ?_
              refine r_aload_n dX9_isMeant_21 rfl ?_
              refine r_get dX9_isMeant_22 fX9_60 rfl rfl ?_
              refine r_iload_n dX9_isMeant_25 rfl ?_
              refine r_iald dX9_isMeant_26 rfl rfl hd (by decide) ?_
              refine r_topi _ e1 ?_
              refine r_iconst (v := (nI 4)) dX9_isMeant_27 (by decide) ?_
              refine r_pc 28 rfl ?_
              refine r_iremN dX9_isMeant_28 (by omega) (by decide) (by decide) ?_
              refine r_iconst (v := (nI 1)) dX9_isMeant_29 (by decide) ?_
              refine r_iconst (v := (nI 2)) dX9_isMeant_30 (by decide) ?_
              refine r_cS dX9_isMeant_31 (m_isIn _ _ _ _) lX9_147 rfl rfl (by decide) ⟨Nat.le_refl _, Nat.le_refl _⟩ (Nat.le_of_ble_eq_true rfl) ?_
              rw [h1]
              refine r_if_eq 57 dX9_isMeant_34 (by decide) (fun h34 => ?_) (fun h34 => ?_)
              · exact absurd h34 (by decide)
              · refine r_pc 37 rfl ?_
                refine r_aload_n dX9_isMeant_37 rfl ?_
                refine r_get dX9_isMeant_38 fX9_60 rfl rfl ?_
                refine r_iload_n dX9_isMeant_41 rfl ?_
                refine r_iald dX9_isMeant_42 rfl rfl hd (by decide) ?_
                refine r_topi _ e1 ?_
                refine r_iconst (v := (nI 4)) dX9_isMeant_43 (by decide) ?_
                refine r_pc 44 rfl ?_
                refine r_idivN dX9_isMeant_44 (by omega) (by decide) (by decide) ?_
                refine r_iconst (v := (nI 1)) dX9_isMeant_45 (by decide) ?_
                refine r_iconst (v := (nI 2)) dX9_isMeant_46 (by decide) ?_
                refine r_cS dX9_isMeant_47 (m_isIn _ _ _ _) lX9_147 rfl rfl (by decide) ⟨Nat.le_refl _, Nat.le_refl _⟩ (Nat.le_of_ble_eq_true rfl) ?_
                rw [hd2]
                refine r_if_eq 57 dX9_isMeant_50 (by decide) (fun h50 => ?_) (fun h50 => ?_)
                · refine r_pc 57 rfl ?_
                  refine r_iconst (v := (nI 0)) dX9_isMeant_57 (by decide) ?_
                  refine r_pc 58 rfl ?_
                  exact G
                · exact absurd rfl h50
          · exact absurd h2 (by omega)
        | true =>
          have hf : cen (c d) = true := by rw [← hc, h1, hd2]; rfl
          have G := G true hf
          rw [hf]
          refine r_iload_n dX9_isMeant_0 rfl ?_
          refine r_iconst (v := (nI 5)) dX9_isMeant_1 (by decide) ?_
          refine r_icmp_geN 15 dX9_isMeant_2 (by decide) (by omega) (by omega) (fun h2 => ?_) (fun h2 => ?_)
          · refine r_pc 15 rfl ?_
            refine r_iload_n dX9_isMeant_15 rfl ?_
            refine r_bipush (v := (nI 7)) dX9_isMeant_16 (by decide) ?_
            refine r_icmp_geN 79 dX9_isMeant_18 (by decide) (by omega) (by omega) (fun h18 => ?_) (fun h18 => ?_)
            · exact absurd h18 (by omega)
            · refine r_pc 21 rfl ?_
              refine r_aload_n dX9_isMeant_21 rfl ?_
              refine r_get dX9_isMeant_22 fX9_60 rfl rfl ?_
              refine r_iload_n dX9_isMeant_25 rfl ?_
              refine r_iald dX9_isMeant_26 rfl rfl hd (by decide) ?_
              refine r_topi _ e1 ?_
              refine r_iconst (v := (nI 4)) dX9_isMeant_27 (by decide) ?_
              refine r_pc 28 rfl ?_
              refine r_iremN dX9_isMeant_28 (by omega) (by decide) (by decide) ?_
              refine r_iconst (v := (nI 1)) dX9_isMeant_29 (by decide) ?_
              refine r_iconst (v := (nI 2)) dX9_isMeant_30 (by decide) ?_
              refine r_cS dX9_isMeant_31 (m_isIn _ _ _ _) lX9_147 rfl rfl (by decide) ⟨Nat.le_refl _, Nat.le_refl _⟩ (Nat.le_of_ble_eq_true rfl) ?_
              rw [h1]
              refine r_if_eq 57 dX9_isMeant_34 (by decide) (fun h34 => ?_) (fun h34 => ?_)
              · exact absurd h34 (by decide)
              · refine r_pc 37 rfl ?_
                refine r_aload_n dX9_isMeant_37 rfl ?_
                refine r_get dX9_isMeant_38 fX9_60 rfl rfl ?_
                refine r_iload_n dX9_isMeant_41 rfl ?_
                refine r_iald dX9_isMeant_42 rfl rfl hd (by decide) ?_
                refine r_topi _ e1 ?_
                refine r_iconst (v := (nI 4)) dX9_isMeant_43 (by decide) ?_
                refine r_pc 44 rfl ?_
                refine r_idivN dX9_isMeant_44 (by omega) (by decide) (by decide) ?_
                refine r_iconst (v := (nI 1)) dX9_isMeant_45 (by decide) ?_
                refine r_iconst (v := (nI 2)) dX9_isMeant_46 (by decide) ?_
                refine r_cS dX9_isMeant_47 (m_isIn _ _ _ _) lX9_147 rfl rfl (by decide) ⟨Nat.le_refl _, Nat.le_refl _⟩ (Nat.le_of_ble_eq_true rfl) ?_
                rw [hd2]
                refine r_if_eq 57 dX9_isMeant_50 (by decide) (fun h50 => ?_) (fun h50 => ?_)
                · exact absurd h50 (by decide)
                · refine r_pc 53 rfl ?_
                  refine r_iconst (v := (nI 1)) dX9_isMeant_53 (by decide) ?_
                  refine r_goto 58 dX9_isMeant_54 (by decide) ?_
                  refine r_pc 58 rfl ?_
                  exact G
          · exact absurd h2 (by omega)
    · have T : ∀ (r : Nat), r < 4 → mnt c f n d = lik f d (bes c f d r) → Rn mX9_isMeant 4 0 0 (Q, mW rc rf ro rt ru rm rg rp rq ry rl rn ra rw rk rx rz rd rM rU rK rT rR rL rN rA rF rC rO rB rY rP rb) (some (.int (bI (mnt c f n d)))) (Q, mW rc rf ro rt ru rm rg rp rq ry rl rn ra rw rk rx rz rd rM rU rK rT rR rL rN rA rF rC rO rB rY rP rb) 0 0 92 [some (.ref 100), some (.int (nI d)), some (.int (nI n)), none] [.int (nI r), .int (nI d), .ref 100] (Q, mW rc rf ro rt ru rm rg rp rq ry rl rn ra rw rk rx rz rd rM rU rK rT rR rL rN rA rF rC rO rB rY rP rb) := by
        intro r hr hm
        rw [hm]
        cases hb : bes c f d r with
        | none =>
          refine r_cV dX9_isMeant_92 (m_beside hd hr hS hs) lX9_162 rfl rfl rfl (by decide) ⟨Nat.le_refl _, Nat.le_refl _⟩ (Nat.le_of_ble_eq_true rfl) ?_
          rw [hb]
          refine r_istore_n (ls' := [_, _, _, _]) dX9_isMeant_95 (by decide) rfl ?_
          refine r_iload_n dX9_isMeant_96 rfl ?_
          refine r_if_lt 119 dX9_isMeant_97 (by decide) (fun h97 => ?_) (fun h97 => ?_)
          · refine r_pc 119 rfl ?_
            refine r_iconst (v := (nI 0)) dX9_isMeant_119 (by decide) ?_
            exact r_zret dX9_isMeant_120 rfl rfl rfl rfl
          · exact absurd (by decide) h97
        | some e =>
          have he := bes_lt hb
          obtain ⟨-, -, e4, b4⟩ := hS e he
          refine r_cV dX9_isMeant_92 (m_beside hd hr hS hs) lX9_162 rfl rfl rfl (by decide) ⟨Nat.le_refl _, Nat.le_refl _⟩ (Nat.le_of_ble_eq_true rfl) ?_
          rw [hb]
          refine r_istore_n (ls' := [_, _, _, _]) dX9_isMeant_95 (by decide) rfl ?_
          refine r_iload_n dX9_isMeant_96 rfl ?_
          refine r_if_lt 119 dX9_isMeant_97 (by decide) (fun h97 => ?_) (fun h97 => ?_)
          · exact absurd h97 (nI_pos (by omega))
          · refine r_pc 100 rfl ?_
            refine r_aload_n dX9_isMeant_100 rfl ?_
            refine r_get dX9_isMeant_101 fX9_64 rfl rfl ?_
            refine r_iload_n dX9_isMeant_104 rfl ?_
            refine r_iald dX9_isMeant_105 rfl rfl he (by decide) ?_
            refine r_topi _ e4 ?_
            refine r_aload_n dX9_isMeant_106 rfl ?_
            refine r_pc 107 rfl ?_
            refine r_get dX9_isMeant_107 fX9_64 rfl rfl ?_
            refine r_iload_n dX9_isMeant_110 rfl ?_
            refine r_iald dX9_isMeant_111 rfl rfl hd (by decide) ?_
            refine r_topi _ e2 ?_
            refine r_icmp_neN 119 dX9_isMeant_112 (by decide) (by omega) (by omega) (fun h112 => ?_) (fun h112 => ?_)
            · have hl : lik f d (some e) = false := decide_eq_false h112
              rw [hl]
              refine r_pc 119 rfl ?_
              refine r_iconst (v := (nI 0)) dX9_isMeant_119 (by decide) ?_
              exact r_zret dX9_isMeant_120 rfl rfl rfl rfl
            · have hl : lik f d (some e) = true := decide_eq_true h112
              rw [hl]
              refine r_pc 115 rfl ?_
              refine r_iconst (v := (nI 1)) dX9_isMeant_115 (by decide) ?_
              refine r_goto 120 dX9_isMeant_116 (by decide) ?_
              exact r_zret dX9_isMeant_120 rfl rfl rfl rfl
      rcases (show n = 7 ∨ n = 8 by omega) with rfl | rfl
      · have T := T 3 (by decide) rfl
        refine r_iload_n dX9_isMeant_0 rfl ?_
        refine r_iconst (v := (nI 5)) dX9_isMeant_1 (by decide) ?_
        refine r_icmp_geN 15 dX9_isMeant_2 (by decide) (by omega) (by omega) (fun h2 => ?_) (fun h2 => ?_)
        · refine r_pc 15 rfl ?_
          refine r_iload_n dX9_isMeant_15 rfl ?_
          refine r_bipush (v := (nI 7)) dX9_isMeant_16 (by decide) ?_
          refine r_icmp_geN 79 dX9_isMeant_18 (by decide) (by omega) (by omega) (fun h18 => ?_) (fun h18 => ?_)
          · refine r_pc 79 rfl ?_
            refine r_aload_n dX9_isMeant_79 rfl ?_
            refine r_iload_n dX9_isMeant_80 rfl ?_
            refine r_iload_n dX9_isMeant_81 rfl ?_
            refine r_bipush (v := (nI 7)) dX9_isMeant_82 (by decide) ?_
            refine r_icmp_neN 91 dX9_isMeant_84 (by decide) (by omega) (by omega) (fun h84 => ?_) (fun h84 => ?_)
            · exact absurd rfl h84
            · refine r_pc 87 rfl ?_
              refine r_iconst (v := (nI 3)) dX9_isMeant_87 (by decide) ?_
              refine r_goto 92 dX9_isMeant_88 (by decide) ?_
              refine r_pc 92 rfl ?_
              exact T
          · exact absurd h18 (by decide)
        · exact absurd h2 (by decide)
      · have T := T 1 (by decide) rfl
        refine r_iload_n dX9_isMeant_0 rfl ?_
        refine r_iconst (v := (nI 5)) dX9_isMeant_1 (by decide) ?_
        refine r_icmp_geN 15 dX9_isMeant_2 (by decide) (by omega) (by omega) (fun h2 => ?_) (fun h2 => ?_)
        · refine r_pc 15 rfl ?_
          refine r_iload_n dX9_isMeant_15 rfl ?_
          refine r_bipush (v := (nI 7)) dX9_isMeant_16 (by decide) ?_
          refine r_icmp_geN 79 dX9_isMeant_18 (by decide) (by omega) (by omega) (fun h18 => ?_) (fun h18 => ?_)
          · refine r_pc 79 rfl ?_
            refine r_aload_n dX9_isMeant_79 rfl ?_
            refine r_iload_n dX9_isMeant_80 rfl ?_
            refine r_iload_n dX9_isMeant_81 rfl ?_
            refine r_bipush (v := (nI 7)) dX9_isMeant_82 (by decide) ?_
            refine r_icmp_neN 91 dX9_isMeant_84 (by decide) (by omega) (by omega) (fun h84 => ?_) (fun h84 => ?_)
            · refine r_pc 91 rfl ?_
              refine r_iconst (v := (nI 1)) dX9_isMeant_91 (by decide) ?_
              refine r_pc 92 rfl ?_
              exact T
            · exact absurd h84 (by decide)
          · exact absurd h18 (by decide)
        · exact absurd h2 (by decide)
theorem m_meantBy {n : Nat} (hn : n < 9) (hS : Sq rc rf c f) (hs : SdM ro c) : Sem mX9_meantBy 5 0 0 [.ref 100, .int (nI n)] (Q, mW rc rf ro rt ru rm rg rp rq ry rl rn ra rw rk rx rz rd rM rU rK rT rR rL rN rA rF rC rO rB rY rP rb) (some (.int (mbI (mnt c f n) 8))) (Q, mW rc rf ro rt ru rm rg rp rq ry rl rn ra rw rk rx rz rd rM rU rK rT rR rL rN rA rF rC rO rB rY rP rb) := by
  refine sem_of (by decide) (Nat.le_of_ble_eq_true rfl) rfl ?_
  have L : ∀ (m i : Nat), i + m = 8 → Rn mX9_meantBy 5 0 0 (Q, mW rc rf ro rt ru rm rg rp rq ry rl rn ra rw rk rx rz rd rM rU rK rT rR rL rN rA rF rC rO rB rY rP rb) (some (.int (mbI (mnt c f n) 8))) (Q, mW rc rf ro rt ru rm rg rp rq ry rl rn ra rw rk rx rz rd rM rU rK rT rR rL rN rA rF rC rO rB rY rP rb) 0 0 4 [some (.ref 100), some (.int (nI n)), some (.int (mbI (mnt c f n) i)), some (.int (nI i))] [] (Q, mW rc rf ro rt ru rm rg rp rq ry rl rn ra rw rk rx rz rd rM rU rK rT rR rL rN rA rF rC rO rB rY rP rb) := by
    intro m
    induction m with
    | zero =>
      intro i hi
      have : i = 8 := by omega
      subst this
      refine r_iload_n dX9_meantBy_4 rfl ?_
      refine r_bipush (v := (nI 8)) dX9_meantBy_5 (by decide) ?_
      refine r_icmp_geN 35 dX9_meantBy_7 (by decide) (by omega) (by omega) (fun h7 => ?_) (fun h7 => ?_)
      · refine r_pc 35 rfl ?_
        refine r_iload_n dX9_meantBy_35 rfl ?_
        exact r_iret dX9_meantBy_36 rfl rfl rfl
      · exact absurd h7 (by omega)
    | succ m ih =>
      intro i hi
      have hi8 : i < 8 := by omega
      have ih := ih (i + 1) (by omega)
      cases hm : mnt c f n i with
      | true =>
        have e : mbI (mnt c f n) (i + 1) = mbI (mnt c f n) i ||| (nI 1 <<< (nI i &&& 31)) := by rw [mbI, hm]
        rw [e] at ih
        refine r_iload_n dX9_meantBy_4 rfl ?_
        refine r_bipush (v := (nI 8)) dX9_meantBy_5 (by decide) ?_
        refine r_icmp_geN 35 dX9_meantBy_7 (by decide) (by omega) (by omega) (fun h7 => ?_) (fun h7 => ?_)
        · exact absurd h7 (by omega)
        · refine r_pc 10 rfl ?_
          refine r_iload_n dX9_meantBy_10 rfl ?_
          refine r_aload_n dX9_meantBy_11 rfl ?_
          refine r_iload_n dX9_meantBy_12 rfl ?_
          refine r_iload_n dX9_meantBy_13 rfl ?_
          refine r_cV dX9_meantBy_14 (m_isMeant hi8 hn hS hs) lX9_165 rfl rfl rfl (by decide) ⟨Nat.le_refl _, Nat.le_refl _⟩ (Nat.le_of_ble_eq_true rfl) ?_
          refine r_pc 17 rfl ?_
          rw [hm]
          refine r_if_eq 26 dX9_meantBy_17 (by decide) (fun h17 => ?_) (fun h17 => ?_)
          · exact absurd h17 (by decide)
          · refine r_pc 20 rfl ?_
            refine r_iconst (v := (nI 1)) dX9_meantBy_20 (by decide) ?_
            refine r_iload_n dX9_meantBy_21 rfl ?_
            refine r_ishl dX9_meantBy_22 ?_
            refine r_goto 27 dX9_meantBy_23 (by decide) ?_
            refine r_ior dX9_meantBy_27 ?_
            refine r_pc 28 rfl ?_
            refine r_istore_n (ls' := [_, _, _, _]) dX9_meantBy_28 (by decide) rfl ?_
            refine r_inc1 (ls' := [_, _, _, _]) dX9_meantBy_29 (by decide) rfl rfl ?_
            refine r_goto 4 dX9_meantBy_32 (by decide) ?_
            refine r_pc 4 rfl ?_
            exact ih
      | false =>
        have e : mbI (mnt c f n) (i + 1) = mbI (mnt c f n) i := by rw [mbI, hm]
        rw [e] at ih
        refine r_iload_n dX9_meantBy_4 rfl ?_
        refine r_bipush (v := (nI 8)) dX9_meantBy_5 (by decide) ?_
        refine r_icmp_geN 35 dX9_meantBy_7 (by decide) (by omega) (by omega) (fun h7 => ?_) (fun h7 => ?_)
        · exact absurd h7 (by omega)
        · refine r_pc 10 rfl ?_
          refine r_iload_n dX9_meantBy_10 rfl ?_
          refine r_aload_n dX9_meantBy_11 rfl ?_
          refine r_iload_n dX9_meantBy_12 rfl ?_
          refine r_iload_n dX9_meantBy_13 rfl ?_
          refine r_cV dX9_meantBy_14 (m_isMeant hi8 hn hS hs) lX9_165 rfl rfl rfl (by decide) ⟨Nat.le_refl _, Nat.le_refl _⟩ (Nat.le_of_ble_eq_true rfl) ?_
          refine r_pc 17 rfl ?_
          rw [hm]
          refine r_if_eq 26 dX9_meantBy_17 (by decide) (fun h17 => ?_) (fun h17 => ?_)
          · refine r_pc 26 rfl ?_
            refine r_iconst (v := (nI 0)) dX9_meantBy_26 (by decide) ?_
            refine r_ior dX9_meantBy_27 ?_
            refine r_topi (mbI (mnt c f n) i) (Int32.or_zero) ?_
            refine r_istore_n (ls' := [_, _, _, _]) dX9_meantBy_28 (by decide) rfl ?_
            refine r_inc1 (ls' := [_, _, _, _]) dX9_meantBy_29 (by decide) rfl rfl ?_
            refine r_goto 4 dX9_meantBy_32 (by decide) ?_
            refine r_pc 4 rfl ?_
            exact ih
          · exact absurd rfl h17
  refine r_iconst (v := (nI 0)) dX9_meantBy_0 (by decide) ?_
  refine r_istore_n (ls' := [_, _, _, _]) dX9_meantBy_1 (by decide) rfl ?_
  refine r_iconst (v := (nI 0)) dX9_meantBy_2 (by decide) ?_
  refine r_istore_n (ls' := [_, _, _, _]) dX9_meantBy_3 (by decide) rfl ?_
  refine r_pc 4 rfl ?_
  exact L 8 0 (by omega)
def plO (x : Nat) : Option Nat := fnd (fun k => decide (HC k = x)) 8 0
theorem m_placeOf {x : Nat} (hx : x < 16) (w : WD) : Sem mX9_placeOf 1 0 0 [.int (nI x)] w (some (.int (stN (plO x)))) w := by
  refine sem_of (by decide) (Nat.le_of_ble_eq_true rfl) rfl ?_
  have L : ∀ (m k : Nat), k + m = 8 → Rn mX9_placeOf 1 0 0 w (some (.int (stN (fnd (fun k => decide (HC k = x)) m k)))) w 0 0 2 [some (.int (nI x)), some (.int (nI k))] [] w := by
    intro m
    induction m with
    | zero =>
      intro k hk
      refine r_iload_n dX9_placeOf_2 rfl ?_
      refine r_bipush (v := (nI 8)) dX9_placeOf_3 (by decide) ?_
      refine r_icmp_geN 25 dX9_placeOf_5 (by decide) (by omega) (by omega) (fun h5 => ?_) (fun h5 => ?_)
      · refine r_pc 25 rfl ?_
        refine r_bipush (v := (-2)) dX9_placeOf_25 (by decide) ?_
        exact r_iret dX9_placeOf_27 rfl rfl rfl
      · exact absurd h5 (by omega)
    | succ m ih =>
      intro k hk
      have hk8 : k < 8 := by omega
      have hh := HC_lt k hk8
      unfold fnd
      refine r_iload_n dX9_placeOf_2 rfl ?_
      refine r_bipush (v := (nI 8)) dX9_placeOf_3 (by decide) ?_
      refine r_icmp_geN 25 dX9_placeOf_5 (by decide) (by omega) (by omega) (fun h5 => ?_) (fun h5 => ?_)
      · exact absurd h5 (by omega)
      · refine r_pc 8 rfl ?_
        refine r_gets (a := 5) dX9_placeOf_8 rfl sX9_130 ?_
        refine r_iload_n dX9_placeOf_11 rfl ?_
        refine r_cald (v := nI (HC k)) 5 rfl (Or.inl ⟨dX9_placeOf_12, rfl⟩) rfl hk8 (by decide) (HC_I k hk8) ?_
        refine r_iload_n dX9_placeOf_13 rfl ?_
        refine r_icmp_neN 19 dX9_placeOf_14 (by decide) (by omega) (by omega) (fun h14 => ?_) (fun h14 => ?_)
        · rw [if_neg (fun z => h14 (of_decide_eq_true z))]
          refine r_pc 19 rfl ?_
          refine r_inc1 (ls' := [_, _]) dX9_placeOf_19 (by decide) rfl rfl ?_
          refine r_goto 2 dX9_placeOf_22 (by decide) ?_
          refine r_pc 2 rfl ?_
          exact ih (k + 1) (by omega)
        · rw [if_pos (decide_eq_true h14)]
          refine r_pc 17 rfl ?_
          refine r_iload_n dX9_placeOf_17 rfl ?_
          exact r_iret dX9_placeOf_18 rfl rfl rfl
  refine r_iconst (v := (nI 0)) dX9_placeOf_0 (by decide) ?_
  refine r_istore_n (ls' := [_, _]) dX9_placeOf_1 (by decide) rfl ?_
  refine r_pc 2 rfl ?_
  exact L 8 0 (by omega)
end R2
