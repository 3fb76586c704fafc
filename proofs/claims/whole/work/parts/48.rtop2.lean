/-! ===== the reference: count, picture, image, back, would ===== -/
theorem r_ldcwS {Z : ZT} {X : XT} {M : MI} {k mc ms : Nat} {w0 : WD} {nc ns pc : Nat} {ls : List (Option Value)} {st : List Value} {w : WD} {idx i : Nat} (hd : decode M.2.1 pc = .ok (.ldc_w idx, 3)) (hr : (M.1.cls, idx, i) ∈ zt_ref) (K : Rq Z X M k mc ms w0 nc ns (pc + 3) ls (.ref (2000 + i) :: st) w) : Rq Z X M k mc ms w0 nc ns pc ls st w := by
  intro p l e s m args below meth c D cA ad0 A hC hX ad H locs lsA hg hP hD hS hl
  have K := K p l e s m args below meth c D cA ad0 A hC hX ad H locs lsA hg hP hD hS hl
  obtain ⟨hx, hb, hml, hrt, hlk, hnm, hown, hts, hK, hA, hSt⟩ := hC
  have hZ := hSt.2.2.1.1 _ hr
  rw [← hg.2 _ (Or.inr (show 1000 ≤ 2000 + i by omega))] at hZ
  intro T hT X1
  obtain ⟨t, a1, b1⟩ := K T hT X1
  exact ⟨t, X1.ldcStringW hx hown hZ.1 hZ.2 (g := F0 m pc lsA (st.map (cv ad))) rfl (by rw [hb]; exact hd) t a1, b1⟩
theorem upl_lt {f g : Nat → Int64} {i : Nat} (h : ∀ j, j < i → f j = g j) : ∀ j, j < i + 1 → vp_updL f i (g i) j = g j := fun j hj => by
  unfold vp_updL
  by_cases e : j = i
  · rw [if_pos e, e]
  · rw [if_neg e]; exact h j (by omega)
section D2
variable {R : List AE} {w : WD} {L : Nat} {b : Nat → Nat} {n m : Nat} {cd : Nat → Nat} {Q : Nat → Int64} {ik : Bool} {kn : Nat} {kc : Nat → Nat} {kQ : Nat → Int64} {fn : Nat} {fr : Nat → Int32} {fz : Int32} {tal : Nat → Int32}
theorem d_count_0 (hR : RI L b n m cd Q ik kn kc kQ fn fr fz tal R w) : SemP mX9_count 5 0 0 [.ref 100, .int (nI 0)] w (Top (nI (cnt (ahB (sqc (Q n)) (sqf (Q n)) false) 8)) (RI L b n m cd Q ik kn kc kQ fn fr fz tal R)) := by
  obtain ⟨rc, rf, ro, rt, ru, rm, rg, rp, rq, ry, rl, wt, rk, rx, rz, rd, rT, rR, rN, rA, rF, rC, rO, rB, rY, rP, rb, rfl, ⟨s1, s2, s3, s4, s5, s6⟩, hB, hrx, hrw, hrz, hrk, hrl, hrd⟩ := hR
  have hm : m ≤ 200 := s4.1
  have hkn : kn ≤ 200 := s5.1
  have hL : L ≤ 120 := s1
  have s3 : n ≤ m := s3
  have hn : n ≤ 200 := Nat.le_trans s3 s4.1
  have s6 : fn ≤ 8 := s6
  have hrx : ∀ j, j < m → rx j = nI (cd j) := hrx
  have hrw : ∀ j, j ≤ m → wt j = bt (Q j) := hrw
  have hrl : ∀ j, j < fn → rl j = fr j := hrl
  have hrd : ∀ j, j < 12 → rd j = tal j := hrd
  have hQn : wt n = bt (Q n) := hrw n s3
  have hVn : Vq (Q n) := s4.2.2.1 n s3
  refine semP_of (by decide) (Nat.le_of_ble_eq_true rfl) rfl ?_
  generalize hw0 : (R, mW rc rf ro rt ru rm rg rp rq ry rl (nI fn) (fz) (wt) rk rx rz rd (nI n) (nI (m - n)) (rkI ik kn) rT rR (nI L) rN rA rF rC rO rB rY rP rb) = w0
  have Lp : ∀ (k i : Nat), i + k = 8 → Rp mX9_count 5 0 0 w0 (Top (nI (cnt (ahB (sqc (Q n)) (sqf (Q n)) false) 8)) (RI L b n m cd Q ik kn kc kQ fn fr fz tal R)) 0 0 19 [some (.ref 100), some (.int (nI 0)), some (.int (nI (cnt (ahB (sqc (Q n)) (sqf (Q n)) false) i))), some (.int (nI i))] [] (R, mW (fun j => nI (rqc (bt (Q n)) j)) (fun j => nI (rqf (bt (Q n)) j)) (fun x => stN (who (rqc (bt (Q n))) 8 x)) rt ru rm rg rp rq ry rl (nI fn) (fz) (wt) rk rx rz rd (nI n) (nI (m - n)) (rkI ik kn) rT rR (nI L) rN rA rF rC rO rB rY rP rb) := by
    intro k
    induction k with
    | zero =>
      intro i hi
      have : i = 8 := by omega
      subst this
      refine r_iload_n dX9_count_19 rfl ?_
      refine r_bipush (v := (nI 8)) dX9_count_20 (by decide) ?_
      refine r_icmp_geN 122 dX9_count_22 (by decide) (by omega) (by omega) (fun h22 => ?_) (fun h22 => ?_)
      · refine r_pc 122 rfl ?_
        refine r_iload_n dX9_count_122 rfl ?_
        exact r_iretP dX9_count_123 rfl ⟨rfl, _, _, _, _, _, _, _, _, _, _, _, _, _, _, _, _, _, _, _, _, _, _, _, _, _, _, _, rfl, ⟨⟨s1, s2, s3, s4, s5, s6⟩, hB, hrx, hrw, hrz, hrk, hrl, hrd⟩⟩
      · exact absurd h22 (by omega)
    | succ k ih =>
      intro i hi
      have hi8 : i < 8 := by omega
      have ih := ih (i + 1) (by omega)
      have c1 : nI (rqc (bt (Q n)) i) = nI (sqc (Q n) i) := congrArg nI (bt_c (Q n) hi8)
      have f1 : nI (rqf (bt (Q n)) i) = nI (sqf (Q n) i) := congrArg nI (bt_f (Q n) hi8)
      have hc := sqc_lt (Q n) i
      have hf := sqf_lt (Q n) i
      have hh := HC_lt i hi8
      have hh2 := HF_lt i hi8
      unfold cnt at ih
      cases hb : (ahB (sqc (Q n)) (sqf (Q n)) false) i with
      | true =>
        rw [hb] at ih
        have q : sqc (Q n) i = HC i := by simpa [ahB] using hb
        refine r_iload_n dX9_count_19 rfl ?_
        refine r_bipush (v := (nI 8)) dX9_count_20 (by decide) ?_
        refine r_icmp_geN 122 dX9_count_22 (by decide) (by omega) (by omega) (fun h22 => ?_) (fun h22 => ?_)
        · exact absurd h22 (by omega)
        · refine r_pc 25 rfl ?_
          refine r_iload_n dX9_count_25 rfl ?_
          refine r_iconst (v := (nI 2)) dX9_count_26 (by decide) ?_
          refine r_icmp_geN 73 dX9_count_27 (by decide) (by omega) (by omega) (fun h27 => ?_) (fun h27 => ?_)
          · exact absurd h27 (by decide)
          · refine r_pc 30 rfl ?_
            refine r_iload_n dX9_count_30 rfl ?_
            refine r_aload_n dX9_count_31 rfl ?_
            refine r_get dX9_count_32 fX9_60 rfl rfl ?_
            refine r_iload_n dX9_count_35 rfl ?_
            refine r_iald dX9_count_36 rfl rfl hi8 (by decide) ?_
            refine r_pc 37 rfl ?_
            refine r_topi _ c1 ?_
            refine r_gets (a := 5) dX9_count_37 rfl sX9_130 ?_
            refine r_iload_n dX9_count_40 rfl ?_
            refine r_cald (v := nI (HC i)) 5 rfl (Or.inl ⟨dX9_count_41, rfl⟩) rfl hi8 (by decide) (HC_I i hi8) ?_
            refine r_icmp_neN 67 dX9_count_42 (by decide) (by omega) (by omega) (fun h42 => ?_) (fun h42 => ?_)
            · exact absurd q h42
            · refine r_pc 45 rfl ?_
              refine r_iload_n dX9_count_45 rfl ?_
              refine r_if_eq 63 dX9_count_46 (by decide) (fun h46 => ?_) (fun h46 => ?_)
              · refine r_pc 63 rfl ?_
                refine r_iconst (v := (nI 1)) dX9_count_63 (by decide) ?_
                refine r_goto 68 dX9_count_64 (by decide) ?_
                refine r_iaddN dX9_count_68 ?_
                refine r_istore_n (ls' := [_, _, _, _]) dX9_count_69 (by decide) rfl ?_
                refine r_goto 116 dX9_count_70 (by decide) ?_
                refine r_inc1 (ls' := [_, _, _, _]) dX9_count_116 (by decide) rfl rfl ?_
                refine r_goto 19 dX9_count_119 (by decide) ?_
                refine r_pc 19 rfl ?_
                exact ih
              · exact absurd rfl h46
      | false =>
        rw [hb] at ih
        dsimp only at ih
        have q : ¬ sqc (Q n) i = HC i := by simpa [ahB] using hb
        refine r_iload_n dX9_count_19 rfl ?_
        refine r_bipush (v := (nI 8)) dX9_count_20 (by decide) ?_
        refine r_icmp_geN 122 dX9_count_22 (by decide) (by omega) (by omega) (fun h22 => ?_) (fun h22 => ?_)
        · exact absurd h22 (by omega)
        · refine r_pc 25 rfl ?_
          refine r_iload_n dX9_count_25 rfl ?_
          refine r_iconst (v := (nI 2)) dX9_count_26 (by decide) ?_
          refine r_icmp_geN 73 dX9_count_27 (by decide) (by omega) (by omega) (fun h27 => ?_) (fun h27 => ?_)
          · exact absurd h27 (by decide)
          · refine r_pc 30 rfl ?_
            refine r_iload_n dX9_count_30 rfl ?_
            refine r_aload_n dX9_count_31 rfl ?_
            refine r_get dX9_count_32 fX9_60 rfl rfl ?_
            refine r_iload_n dX9_count_35 rfl ?_
            refine r_iald dX9_count_36 rfl rfl hi8 (by decide) ?_
            refine r_pc 37 rfl ?_
            refine r_topi _ c1 ?_
            refine r_gets (a := 5) dX9_count_37 rfl sX9_130 ?_
            refine r_iload_n dX9_count_40 rfl ?_
            refine r_cald (v := nI (HC i)) 5 rfl (Or.inl ⟨dX9_count_41, rfl⟩) rfl hi8 (by decide) (HC_I i hi8) ?_
            refine r_icmp_neN 67 dX9_count_42 (by decide) (by omega) (by omega) (fun h42 => ?_) (fun h42 => ?_)
            · refine r_pc 67 rfl ?_
              refine r_iconst (v := (nI 0)) dX9_count_67 (by decide) ?_
              refine r_iaddN dX9_count_68 ?_
              refine r_istore_n (ls' := [_, _, _, _]) dX9_count_69 (by decide) rfl ?_
              refine r_goto 116 dX9_count_70 (by decide) ?_
              refine r_inc1 (ls' := [_, _, _, _]) dX9_count_116 (by decide) rfl rfl ?_
              refine r_pc 119 rfl ?_
              refine r_goto 19 dX9_count_119 (by decide) ?_
              refine r_pc 19 rfl ?_
              exact ih
            · exact absurd h42 q
  subst hw0
  refine r_iload_n dX9_count_0 rfl ?_
  refine r_iconst (v := (nI 0)) dX9_count_1 (by decide) ?_
  refine r_iconst (v := (nI 2)) dX9_count_2 (by decide) ?_
  refine r_cS dX9_count_3 (m_isIn _ _ _ _) lX9_147 rfl rfl (by decide) ⟨Nat.le_refl _, Nat.le_refl _⟩ (Nat.le_of_ble_eq_true rfl) ?_
  rw [in_dec (by decide) (by decide) (by decide) (by decide)]
  refine r_if_ne 11 dX9_count_6 (by decide) (fun h6 => ?_) (fun h6 => ?_)
  · refine r_pc 11 rfl ?_
    refine r_aload_n dX9_count_11 rfl ?_
    refine r_cVv dX9_count_12 (m_look hn hQn) lX9_255 rfl rfl rfl (by decide) ⟨Nat.le_refl _, Nat.le_refl _⟩ (Nat.le_of_ble_eq_true rfl) ?_
    refine r_iconst (v := (nI 0)) dX9_count_15 (by decide) ?_
    refine r_istore_n (ls' := [_, _, _, _]) dX9_count_16 (by decide) rfl ?_
    refine r_iconst (v := (nI 0)) dX9_count_17 (by decide) ?_
    refine r_pc 18 rfl ?_
    refine r_istore_n (ls' := [_, _, _, _]) dX9_count_18 (by decide) rfl ?_
    refine r_pc 19 rfl ?_
    exact Lp 8 0 (by omega)
  · exact absurd h6 (by decide)
theorem d_count_1 (hR : RI L b n m cd Q ik kn kc kQ fn fr fz tal R w) : SemP mX9_count 5 0 0 [.ref 100, .int (nI 1)] w (Top (nI (cnt (ahB (sqc (Q n)) (sqf (Q n)) true) 8)) (RI L b n m cd Q ik kn kc kQ fn fr fz tal R)) := by
  obtain ⟨rc, rf, ro, rt, ru, rm, rg, rp, rq, ry, rl, wt, rk, rx, rz, rd, rT, rR, rN, rA, rF, rC, rO, rB, rY, rP, rb, rfl, ⟨s1, s2, s3, s4, s5, s6⟩, hB, hrx, hrw, hrz, hrk, hrl, hrd⟩ := hR
  have hm : m ≤ 200 := s4.1
  have hkn : kn ≤ 200 := s5.1
  have hL : L ≤ 120 := s1
  have s3 : n ≤ m := s3
  have hn : n ≤ 200 := Nat.le_trans s3 s4.1
  have s6 : fn ≤ 8 := s6
  have hrx : ∀ j, j < m → rx j = nI (cd j) := hrx
  have hrw : ∀ j, j ≤ m → wt j = bt (Q j) := hrw
  have hrl : ∀ j, j < fn → rl j = fr j := hrl
  have hrd : ∀ j, j < 12 → rd j = tal j := hrd
  have hQn : wt n = bt (Q n) := hrw n s3
  have hVn : Vq (Q n) := s4.2.2.1 n s3
  refine semP_of (by decide) (Nat.le_of_ble_eq_true rfl) rfl ?_
  generalize hw0 : (R, mW rc rf ro rt ru rm rg rp rq ry rl (nI fn) (fz) (wt) rk rx rz rd (nI n) (nI (m - n)) (rkI ik kn) rT rR (nI L) rN rA rF rC rO rB rY rP rb) = w0
  have Lp : ∀ (k i : Nat), i + k = 8 → Rp mX9_count 5 0 0 w0 (Top (nI (cnt (ahB (sqc (Q n)) (sqf (Q n)) true) 8)) (RI L b n m cd Q ik kn kc kQ fn fr fz tal R)) 0 0 19 [some (.ref 100), some (.int (nI 1)), some (.int (nI (cnt (ahB (sqc (Q n)) (sqf (Q n)) true) i))), some (.int (nI i))] [] (R, mW (fun j => nI (rqc (bt (Q n)) j)) (fun j => nI (rqf (bt (Q n)) j)) (fun x => stN (who (rqc (bt (Q n))) 8 x)) rt ru rm rg rp rq ry rl (nI fn) (fz) (wt) rk rx rz rd (nI n) (nI (m - n)) (rkI ik kn) rT rR (nI L) rN rA rF rC rO rB rY rP rb) := by
    intro k
    induction k with
    | zero =>
      intro i hi
      have : i = 8 := by omega
      subst this
      refine r_iload_n dX9_count_19 rfl ?_
      refine r_bipush (v := (nI 8)) dX9_count_20 (by decide) ?_
      refine r_icmp_geN 122 dX9_count_22 (by decide) (by omega) (by omega) (fun h22 => ?_) (fun h22 => ?_)
      · refine r_pc 122 rfl ?_
        refine r_iload_n dX9_count_122 rfl ?_
        exact r_iretP dX9_count_123 rfl ⟨rfl, _, _, _, _, _, _, _, _, _, _, _, _, _, _, _, _, _, _, _, _, _, _, _, _, _, _, _, rfl, ⟨⟨s1, s2, s3, s4, s5, s6⟩, hB, hrx, hrw, hrz, hrk, hrl, hrd⟩⟩
      · exact absurd h22 (by omega)
    | succ k ih =>
      intro i hi
      have hi8 : i < 8 := by omega
      have ih := ih (i + 1) (by omega)
      have c1 : nI (rqc (bt (Q n)) i) = nI (sqc (Q n) i) := congrArg nI (bt_c (Q n) hi8)
      have f1 : nI (rqf (bt (Q n)) i) = nI (sqf (Q n) i) := congrArg nI (bt_f (Q n) hi8)
      have hc := sqc_lt (Q n) i
      have hf := sqf_lt (Q n) i
      have hh := HC_lt i hi8
      have hh2 := HF_lt i hi8
      unfold cnt at ih
      cases hb : (ahB (sqc (Q n)) (sqf (Q n)) true) i with
      | true =>
        rw [hb] at ih
        have q : sqc (Q n) i = HC i ∧ sqf (Q n) i = HF i := by simpa [ahB] using hb
        refine r_iload_n dX9_count_19 rfl ?_
        refine r_bipush (v := (nI 8)) dX9_count_20 (by decide) ?_
        refine r_icmp_geN 122 dX9_count_22 (by decide) (by omega) (by omega) (fun h22 => ?_) (fun h22 => ?_)
        · exact absurd h22 (by omega)
        · refine r_pc 25 rfl ?_
          refine r_iload_n dX9_count_25 rfl ?_
          refine r_iconst (v := (nI 2)) dX9_count_26 (by decide) ?_
          refine r_icmp_geN 73 dX9_count_27 (by decide) (by omega) (by omega) (fun h27 => ?_) (fun h27 => ?_)
          · exact absurd h27 (by decide)
          · refine r_pc 30 rfl ?_
            refine r_iload_n dX9_count_30 rfl ?_
            refine r_aload_n dX9_count_31 rfl ?_
            refine r_get dX9_count_32 fX9_60 rfl rfl ?_
            refine r_iload_n dX9_count_35 rfl ?_
            refine r_iald dX9_count_36 rfl rfl hi8 (by decide) ?_
            refine r_pc 37 rfl ?_
            refine r_topi _ c1 ?_
            refine r_gets (a := 5) dX9_count_37 rfl sX9_130 ?_
            refine r_iload_n dX9_count_40 rfl ?_
            refine r_cald (v := nI (HC i)) 5 rfl (Or.inl ⟨dX9_count_41, rfl⟩) rfl hi8 (by decide) (HC_I i hi8) ?_
            refine r_icmp_neN 67 dX9_count_42 (by decide) (by omega) (by omega) (fun h42 => ?_) (fun h42 => ?_)
            · exact absurd q.1 h42
            · refine r_pc 45 rfl ?_
              refine r_iload_n dX9_count_45 rfl ?_
              refine r_if_eq 63 dX9_count_46 (by decide) (fun h46 => ?_) (fun h46 => ?_)
              · exact absurd h46 (by decide)
              · refine r_pc 49 rfl ?_
                refine r_aload_n dX9_count_49 rfl ?_
                refine r_get dX9_count_50 fX9_64 rfl rfl ?_
                refine r_iload_n dX9_count_53 rfl ?_
                refine r_iald dX9_count_54 rfl rfl hi8 (by decide) ?_
                refine r_topi _ f1 ?_
                refine r_gets (a := 6) dX9_count_55 rfl sX9_133 ?_
                refine r_pc 58 rfl ?_
                refine r_iload_n dX9_count_58 rfl ?_
                refine r_cald (v := nI (HF i)) 6 rfl (Or.inl ⟨dX9_count_59, rfl⟩) rfl hi8 (by decide) (HF_I i hi8) ?_
                refine r_icmp_neN 67 dX9_count_60 (by decide) (by omega) (by omega) (fun h60 => ?_) (fun h60 => ?_)
                · exact absurd q.2 h60
                · refine r_pc 63 rfl ?_
                  refine r_iconst (v := (nI 1)) dX9_count_63 (by decide) ?_
                  refine r_goto 68 dX9_count_64 (by decide) ?_
                  refine r_iaddN dX9_count_68 ?_
                  refine r_istore_n (ls' := [_, _, _, _]) dX9_count_69 (by decide) rfl ?_
                  refine r_goto 116 dX9_count_70 (by decide) ?_
                  refine r_inc1 (ls' := [_, _, _, _]) dX9_count_116 (by decide) rfl rfl ?_
                  refine r_goto 19 dX9_count_119 (by decide) ?_
                  refine r_pc 19 rfl ?_
                  exact ih
      | false =>
        rw [hb] at ih
        dsimp only at ih
        have q : sqc (Q n) i = HC i → ¬ sqf (Q n) i = HF i := by simpa [ahB] using hb
        refine r_iload_n dX9_count_19 rfl ?_
        refine r_bipush (v := (nI 8)) dX9_count_20 (by decide) ?_
        refine r_icmp_geN 122 dX9_count_22 (by decide) (by omega) (by omega) (fun h22 => ?_) (fun h22 => ?_)
        · exact absurd h22 (by omega)
        · refine r_pc 25 rfl ?_
          refine r_iload_n dX9_count_25 rfl ?_
          refine r_iconst (v := (nI 2)) dX9_count_26 (by decide) ?_
          refine r_icmp_geN 73 dX9_count_27 (by decide) (by omega) (by omega) (fun h27 => ?_) (fun h27 => ?_)
          · exact absurd h27 (by decide)
          · refine r_pc 30 rfl ?_
            refine r_iload_n dX9_count_30 rfl ?_
            refine r_aload_n dX9_count_31 rfl ?_
            refine r_get dX9_count_32 fX9_60 rfl rfl ?_
            refine r_iload_n dX9_count_35 rfl ?_
            refine r_iald dX9_count_36 rfl rfl hi8 (by decide) ?_
            refine r_pc 37 rfl ?_
            refine r_topi _ c1 ?_
            refine r_gets (a := 5) dX9_count_37 rfl sX9_130 ?_
            refine r_iload_n dX9_count_40 rfl ?_
            refine r_cald (v := nI (HC i)) 5 rfl (Or.inl ⟨dX9_count_41, rfl⟩) rfl hi8 (by decide) (HC_I i hi8) ?_
            refine r_icmp_neN 67 dX9_count_42 (by decide) (by omega) (by omega) (fun h42 => ?_) (fun h42 => ?_)
            · refine r_pc 67 rfl ?_
              refine r_iconst (v := (nI 0)) dX9_count_67 (by decide) ?_
              refine r_iaddN dX9_count_68 ?_
              refine r_istore_n (ls' := [_, _, _, _]) dX9_count_69 (by decide) rfl ?_
              refine r_goto 116 dX9_count_70 (by decide) ?_
              refine r_inc1 (ls' := [_, _, _, _]) dX9_count_116 (by decide) rfl rfl ?_
              refine r_pc 119 rfl ?_
              refine r_goto 19 dX9_count_119 (by decide) ?_
              refine r_pc 19 rfl ?_
              exact ih
            · refine r_pc 45 rfl ?_
              refine r_iload_n dX9_count_45 rfl ?_
              refine r_if_eq 63 dX9_count_46 (by decide) (fun h46 => ?_) (fun h46 => ?_)
              · exact absurd h46 (by decide)
              · refine r_pc 49 rfl ?_
                refine r_aload_n dX9_count_49 rfl ?_
                refine r_get dX9_count_50 fX9_64 rfl rfl ?_
                refine r_iload_n dX9_count_53 rfl ?_
                refine r_iald dX9_count_54 rfl rfl hi8 (by decide) ?_
                refine r_topi _ f1 ?_
                refine r_gets (a := 6) dX9_count_55 rfl sX9_133 ?_
                refine r_pc 58 rfl ?_
                refine r_iload_n dX9_count_58 rfl ?_
                refine r_cald (v := nI (HF i)) 6 rfl (Or.inl ⟨dX9_count_59, rfl⟩) rfl hi8 (by decide) (HF_I i hi8) ?_
                refine r_icmp_neN 67 dX9_count_60 (by decide) (by omega) (by omega) (fun h60 => ?_) (fun h60 => ?_)
                · refine r_pc 67 rfl ?_
                  refine r_iconst (v := (nI 0)) dX9_count_67 (by decide) ?_
                  refine r_iaddN dX9_count_68 ?_
                  refine r_istore_n (ls' := [_, _, _, _]) dX9_count_69 (by decide) rfl ?_
                  refine r_goto 116 dX9_count_70 (by decide) ?_
                  refine r_inc1 (ls' := [_, _, _, _]) dX9_count_116 (by decide) rfl rfl ?_
                  refine r_pc 119 rfl ?_
                  refine r_goto 19 dX9_count_119 (by decide) ?_
                  refine r_pc 19 rfl ?_
                  exact ih
                · exact absurd h60 (q h42)
  subst hw0
  refine r_iload_n dX9_count_0 rfl ?_
  refine r_iconst (v := (nI 0)) dX9_count_1 (by decide) ?_
  refine r_iconst (v := (nI 2)) dX9_count_2 (by decide) ?_
  refine r_cS dX9_count_3 (m_isIn _ _ _ _) lX9_147 rfl rfl (by decide) ⟨Nat.le_refl _, Nat.le_refl _⟩ (Nat.le_of_ble_eq_true rfl) ?_
  rw [in_dec (by decide) (by decide) (by decide) (by decide)]
  refine r_if_ne 11 dX9_count_6 (by decide) (fun h6 => ?_) (fun h6 => ?_)
  · refine r_pc 11 rfl ?_
    refine r_aload_n dX9_count_11 rfl ?_
    refine r_cVv dX9_count_12 (m_look hn hQn) lX9_255 rfl rfl rfl (by decide) ⟨Nat.le_refl _, Nat.le_refl _⟩ (Nat.le_of_ble_eq_true rfl) ?_
    refine r_iconst (v := (nI 0)) dX9_count_15 (by decide) ?_
    refine r_istore_n (ls' := [_, _, _, _]) dX9_count_16 (by decide) rfl ?_
    refine r_iconst (v := (nI 0)) dX9_count_17 (by decide) ?_
    refine r_pc 18 rfl ?_
    refine r_istore_n (ls' := [_, _, _, _]) dX9_count_18 (by decide) rfl ?_
    refine r_pc 19 rfl ?_
    exact Lp 8 0 (by omega)
  · exact absurd h6 (by decide)
theorem d_count_2 (hR : RI L b n m cd Q ik kn kc kQ fn fr fz tal R w) : SemP mX9_count 5 0 0 [.ref 100, .int (nI 2)] w (Top (nI (cnt (cpB (sqc (Q n)) (sqf (Q n))) 8)) (RI L b n m cd Q ik kn kc kQ fn fr fz tal R)) := by
  obtain ⟨rc, rf, ro, rt, ru, rm, rg, rp, rq, ry, rl, wt, rk, rx, rz, rd, rT, rR, rN, rA, rF, rC, rO, rB, rY, rP, rb, rfl, ⟨s1, s2, s3, s4, s5, s6⟩, hB, hrx, hrw, hrz, hrk, hrl, hrd⟩ := hR
  have hm : m ≤ 200 := s4.1
  have hkn : kn ≤ 200 := s5.1
  have hL : L ≤ 120 := s1
  have s3 : n ≤ m := s3
  have hn : n ≤ 200 := Nat.le_trans s3 s4.1
  have s6 : fn ≤ 8 := s6
  have hrx : ∀ j, j < m → rx j = nI (cd j) := hrx
  have hrw : ∀ j, j ≤ m → wt j = bt (Q j) := hrw
  have hrl : ∀ j, j < fn → rl j = fr j := hrl
  have hrd : ∀ j, j < 12 → rd j = tal j := hrd
  have hQn : wt n = bt (Q n) := hrw n s3
  have hVn : Vq (Q n) := s4.2.2.1 n s3
  refine semP_of (by decide) (Nat.le_of_ble_eq_true rfl) rfl ?_
  generalize hw0 : (R, mW rc rf ro rt ru rm rg rp rq ry rl (nI fn) (fz) (wt) rk rx rz rd (nI n) (nI (m - n)) (rkI ik kn) rT rR (nI L) rN rA rF rC rO rB rY rP rb) = w0
  have Lp : ∀ (k i : Nat), i + k = 8 → Rp mX9_count 5 0 0 w0 (Top (nI (cnt (cpB (sqc (Q n)) (sqf (Q n))) 8)) (RI L b n m cd Q ik kn kc kQ fn fr fz tal R)) 0 0 19 [some (.ref 100), some (.int (nI 2)), some (.int (nI (cnt (cpB (sqc (Q n)) (sqf (Q n))) i))), some (.int (nI i))] [] (R, mW (fun j => nI (rqc (bt (Q n)) j)) (fun j => nI (rqf (bt (Q n)) j)) (fun x => stN (who (rqc (bt (Q n))) 8 x)) rt ru rm rg rp rq ry rl (nI fn) (fz) (wt) rk rx rz rd (nI n) (nI (m - n)) (rkI ik kn) rT rR (nI L) rN rA rF rC rO rB rY rP rb) := by
    intro k
    induction k with
    | zero =>
      intro i hi
      have : i = 8 := by omega
      subst this
      refine r_iload_n dX9_count_19 rfl ?_
      refine r_bipush (v := (nI 8)) dX9_count_20 (by decide) ?_
      refine r_icmp_geN 122 dX9_count_22 (by decide) (by omega) (by omega) (fun h22 => ?_) (fun h22 => ?_)
      · refine r_pc 122 rfl ?_
        refine r_iload_n dX9_count_122 rfl ?_
        exact r_iretP dX9_count_123 rfl ⟨rfl, _, _, _, _, _, _, _, _, _, _, _, _, _, _, _, _, _, _, _, _, _, _, _, _, _, _, _, rfl, ⟨⟨s1, s2, s3, s4, s5, s6⟩, hB, hrx, hrw, hrz, hrk, hrl, hrd⟩⟩
      · exact absurd h22 (by omega)
    | succ k ih =>
      intro i hi
      have hi8 : i < 8 := by omega
      have ih := ih (i + 1) (by omega)
      have c1 : nI (rqc (bt (Q n)) i) = nI (sqc (Q n) i) := congrArg nI (bt_c (Q n) hi8)
      have f1 : nI (rqf (bt (Q n)) i) = nI (sqf (Q n) i) := congrArg nI (bt_f (Q n) hi8)
      have hc := sqc_lt (Q n) i
      have hf := sqf_lt (Q n) i
      have hh := HC_lt i hi8
      have hh2 := HF_lt i hi8
      unfold cnt at ih
      cases hb : (cpB (sqc (Q n)) (sqf (Q n))) i with
      | true =>
        rw [hb] at ih
        have f2 : i % 2 = 0 → nI (rqf (bt (Q n)) (i + 1)) = nI (sqf (Q n) (i + 1)) := fun z => congrArg nI (bt_f (Q n) (by omega))
        have hf2 := sqf_lt (Q n) (i + 1)
        have hbl : ∀ e, bes (sqc (Q n)) (sqf (Q n)) i 1 = some e → e < 2 ^ 31 := fun e he => by have := bes_lt he; omega
        have q : i % 2 = 0 ∧ bes (sqc (Q n)) (sqf (Q n)) i 1 = some (i + 1) ∧ sqf (Q n) (i + 1) = sqf (Q n) i := by simpa [cpB] using hb
        have f2 := f2 q.1
        refine r_iload_n dX9_count_19 rfl ?_
        refine r_bipush (v := (nI 8)) dX9_count_20 (by decide) ?_
        refine r_icmp_geN 122 dX9_count_22 (by decide) (by omega) (by omega) (fun h22 => ?_) (fun h22 => ?_)
        · exact absurd h22 (by omega)
        · refine r_pc 25 rfl ?_
          refine r_iload_n dX9_count_25 rfl ?_
          refine r_iconst (v := (nI 2)) dX9_count_26 (by decide) ?_
          refine r_icmp_geN 73 dX9_count_27 (by decide) (by omega) (by omega) (fun h27 => ?_) (fun h27 => ?_)
          · refine r_pc 73 rfl ?_
            refine r_iload_n dX9_count_73 rfl ?_
            refine r_iload_n dX9_count_74 rfl ?_
            refine r_iconst (v := (nI 2)) dX9_count_75 (by decide) ?_
            refine r_iremN dX9_count_76 (by omega) (by decide) (by decide) ?_
            rw [q.1]
            refine r_if_ne 113 dX9_count_77 (by decide) (fun h77 => ?_) (fun h77 => ?_)
            · exact absurd rfl h77
            · refine r_pc 80 rfl ?_
              refine r_aload_n dX9_count_80 rfl ?_
              refine r_iload_n dX9_count_81 rfl ?_
              refine r_iconst (v := (nI 1)) dX9_count_82 (by decide) ?_
              refine r_cV dX9_count_83 (m_beside hi8 (by decide) (Sq_bt _) (Sd_bt _)) lX9_162 rfl rfl rfl (by decide) ⟨Nat.le_refl _, Nat.le_refl _⟩ (Nat.le_of_ble_eq_true rfl) ?_
              refine r_iload_n dX9_count_86 rfl ?_
              refine r_pc 87 rfl ?_
              refine r_iconst (v := (nI 1)) dX9_count_87 (by decide) ?_
              refine r_iaddN dX9_count_88 ?_
              refine r_icmp_ne 113 dX9_count_89 (by decide) (fun h89 => ?_) (fun h89 => ?_)
              · exact absurd ((stN_nI hbl (by omega)).mpr q.2.1) h89
              · refine r_pc 92 rfl ?_
                refine r_aload_n dX9_count_92 rfl ?_
                refine r_get dX9_count_93 fX9_64 rfl rfl ?_
                refine r_iload_n dX9_count_96 rfl ?_
                refine r_iconst (v := (nI 1)) dX9_count_97 (by decide) ?_
                refine r_iaddN dX9_count_98 ?_
                refine r_pc 99 rfl ?_
                refine r_iald dX9_count_99 rfl rfl (by omega) (by decide) ?_
                refine r_topi _ f2 ?_
                refine r_aload_n dX9_count_100 rfl ?_
                refine r_get dX9_count_101 fX9_64 rfl rfl ?_
                refine r_iload_n dX9_count_104 rfl ?_
                refine r_iald dX9_count_105 rfl rfl hi8 (by decide) ?_
                refine r_pc 106 rfl ?_
                refine r_topi _ f1 ?_
                refine r_icmp_neN 113 dX9_count_106 (by decide) (by omega) (by omega) (fun h106 => ?_) (fun h106 => ?_)
                · exact absurd q.2.2 h106
                · refine r_pc 109 rfl ?_
                  refine r_iconst (v := (nI 1)) dX9_count_109 (by decide) ?_
                  refine r_goto 114 dX9_count_110 (by decide) ?_
                  refine r_iaddN dX9_count_114 ?_
                  refine r_istore_n (ls' := [_, _, _, _]) dX9_count_115 (by decide) rfl ?_
                  refine r_inc1 (ls' := [_, _, _, _]) dX9_count_116 (by decide) rfl rfl ?_
                  refine r_pc 119 rfl ?_
                  refine r_goto 19 dX9_count_119 (by decide) ?_
                  refine r_pc 19 rfl ?_
                  exact ih
          · exact absurd h27 (by decide)
      | false =>
        rw [hb] at ih
        dsimp only at ih
        have f2 : i % 2 = 0 → nI (rqf (bt (Q n)) (i + 1)) = nI (sqf (Q n) (i + 1)) := fun z => congrArg nI (bt_f (Q n) (by omega))
        have hf2 := sqf_lt (Q n) (i + 1)
        have hbl : ∀ e, bes (sqc (Q n)) (sqf (Q n)) i 1 = some e → e < 2 ^ 31 := fun e he => by have := bes_lt he; omega
        by_cases z : i % 2 = 0
        · have q : bes (sqc (Q n)) (sqf (Q n)) i 1 = some (i + 1) → ¬ sqf (Q n) (i + 1) = sqf (Q n) i := by simpa [cpB, z] using hb
          have f2 := f2 z
          refine r_iload_n dX9_count_19 rfl ?_
          refine r_bipush (v := (nI 8)) dX9_count_20 (by decide) ?_
          refine r_icmp_geN 122 dX9_count_22 (by decide) (by omega) (by omega) (fun h22 => ?_) (fun h22 => ?_)
          · exact absurd h22 (by omega)
          · refine r_pc 25 rfl ?_
            refine r_iload_n dX9_count_25 rfl ?_
            refine r_iconst (v := (nI 2)) dX9_count_26 (by decide) ?_
            refine r_icmp_geN 73 dX9_count_27 (by decide) (by omega) (by omega) (fun h27 => ?_) (fun h27 => ?_)
            · refine r_pc 73 rfl ?_
              refine r_iload_n dX9_count_73 rfl ?_
              refine r_iload_n dX9_count_74 rfl ?_
              refine r_iconst (v := (nI 2)) dX9_count_75 (by decide) ?_
              refine r_iremN dX9_count_76 (by omega) (by decide) (by decide) ?_
              rw [z]
              refine r_if_ne 113 dX9_count_77 (by decide) (fun h77 => ?_) (fun h77 => ?_)
              · exact absurd rfl h77
              · refine r_pc 80 rfl ?_
                refine r_aload_n dX9_count_80 rfl ?_
                refine r_iload_n dX9_count_81 rfl ?_
                refine r_iconst (v := (nI 1)) dX9_count_82 (by decide) ?_
                refine r_cV dX9_count_83 (m_beside hi8 (by decide) (Sq_bt _) (Sd_bt _)) lX9_162 rfl rfl rfl (by decide) ⟨Nat.le_refl _, Nat.le_refl _⟩ (Nat.le_of_ble_eq_true rfl) ?_
                refine r_iload_n dX9_count_86 rfl ?_
                refine r_pc 87 rfl ?_
                refine r_iconst (v := (nI 1)) dX9_count_87 (by decide) ?_
                refine r_iaddN dX9_count_88 ?_
                refine r_icmp_ne 113 dX9_count_89 (by decide) (fun h89 => ?_) (fun h89 => ?_)
                · refine r_pc 113 rfl ?_
                  refine r_iconst (v := (nI 0)) dX9_count_113 (by decide) ?_
                  refine r_iaddN dX9_count_114 ?_
                  refine r_istore_n (ls' := [_, _, _, _]) dX9_count_115 (by decide) rfl ?_
                  refine r_inc1 (ls' := [_, _, _, _]) dX9_count_116 (by decide) rfl rfl ?_
                  refine r_goto 19 dX9_count_119 (by decide) ?_
                  refine r_pc 19 rfl ?_
                  exact ih
                · refine r_pc 92 rfl ?_
                  refine r_aload_n dX9_count_92 rfl ?_
                  refine r_get dX9_count_93 fX9_64 rfl rfl ?_
                  refine r_iload_n dX9_count_96 rfl ?_
                  refine r_iconst (v := (nI 1)) dX9_count_97 (by decide) ?_
                  refine r_iaddN dX9_count_98 ?_
                  refine r_pc 99 rfl ?_
                  refine r_iald dX9_count_99 rfl rfl (by omega) (by decide) ?_
                  refine r_topi _ f2 ?_
                  refine r_aload_n dX9_count_100 rfl ?_
                  refine r_get dX9_count_101 fX9_64 rfl rfl ?_
                  refine r_iload_n dX9_count_104 rfl ?_
                  refine r_iald dX9_count_105 rfl rfl hi8 (by decide) ?_
                  refine r_pc 106 rfl ?_
                  refine r_topi _ f1 ?_
                  refine r_icmp_neN 113 dX9_count_106 (by decide) (by omega) (by omega) (fun h106 => ?_) (fun h106 => ?_)
                  · refine r_pc 113 rfl ?_
                    refine r_iconst (v := (nI 0)) dX9_count_113 (by decide) ?_
                    refine r_iaddN dX9_count_114 ?_
                    refine r_istore_n (ls' := [_, _, _, _]) dX9_count_115 (by decide) rfl ?_
                    refine r_inc1 (ls' := [_, _, _, _]) dX9_count_116 (by decide) rfl rfl ?_
                    refine r_goto 19 dX9_count_119 (by decide) ?_
                    refine r_pc 19 rfl ?_
                    exact ih
                  · exact absurd h106 (q ((stN_nI hbl (by omega)).mp h89))
            · exact absurd h27 (by decide)
        · refine r_iload_n dX9_count_19 rfl ?_
          refine r_bipush (v := (nI 8)) dX9_count_20 (by decide) ?_
          refine r_icmp_geN 122 dX9_count_22 (by decide) (by omega) (by omega) (fun h22 => ?_) (fun h22 => ?_)
          · exact absurd h22 (by omega)
          · refine r_pc 25 rfl ?_
            refine r_iload_n dX9_count_25 rfl ?_
            refine r_iconst (v := (nI 2)) dX9_count_26 (by decide) ?_
            refine r_icmp_geN 73 dX9_count_27 (by decide) (by omega) (by omega) (fun h27 => ?_) (fun h27 => ?_)
            · refine r_pc 73 rfl ?_
              refine r_iload_n dX9_count_73 rfl ?_
              refine r_iload_n dX9_count_74 rfl ?_
              refine r_iconst (v := (nI 2)) dX9_count_75 (by decide) ?_
              refine r_iremN dX9_count_76 (by omega) (by decide) (by decide) ?_
              refine r_if_ne 113 dX9_count_77 (by decide) (fun h77 => ?_) (fun h77 => ?_)
              · refine r_pc 113 rfl ?_
                refine r_iconst (v := (nI 0)) dX9_count_113 (by decide) ?_
                refine r_iaddN dX9_count_114 ?_
                refine r_istore_n (ls' := [_, _, _, _]) dX9_count_115 (by decide) rfl ?_
                refine r_inc1 (ls' := [_, _, _, _]) dX9_count_116 (by decide) rfl rfl ?_
                refine r_goto 19 dX9_count_119 (by decide) ?_
                refine r_pc 19 rfl ?_
                exact ih
              · exact absurd (nI_z (by omega) h77) z
            · exact absurd h27 (by decide)
  subst hw0
  refine r_iload_n dX9_count_0 rfl ?_
  refine r_iconst (v := (nI 0)) dX9_count_1 (by decide) ?_
  refine r_iconst (v := (nI 2)) dX9_count_2 (by decide) ?_
  refine r_cS dX9_count_3 (m_isIn _ _ _ _) lX9_147 rfl rfl (by decide) ⟨Nat.le_refl _, Nat.le_refl _⟩ (Nat.le_of_ble_eq_true rfl) ?_
  rw [in_dec (by decide) (by decide) (by decide) (by decide)]
  refine r_if_ne 11 dX9_count_6 (by decide) (fun h6 => ?_) (fun h6 => ?_)
  · refine r_pc 11 rfl ?_
    refine r_aload_n dX9_count_11 rfl ?_
    refine r_cVv dX9_count_12 (m_look hn hQn) lX9_255 rfl rfl rfl (by decide) ⟨Nat.le_refl _, Nat.le_refl _⟩ (Nat.le_of_ble_eq_true rfl) ?_
    refine r_iconst (v := (nI 0)) dX9_count_15 (by decide) ?_
    refine r_istore_n (ls' := [_, _, _, _]) dX9_count_16 (by decide) rfl ?_
    refine r_iconst (v := (nI 0)) dX9_count_17 (by decide) ?_
    refine r_pc 18 rfl ?_
    refine r_istore_n (ls' := [_, _, _, _]) dX9_count_18 (by decide) rfl ?_
    refine r_pc 19 rfl ?_
    exact Lp 8 0 (by omega)
  · exact absurd h6 (by decide)
theorem d_count_x {x : Int32} (hR : RI L b n m cd Q ik kn kc kQ fn fr fz tal R w) (h : x.toInt < 0 ∨ 2 < x.toInt) : SemP mX9_count 5 0 0 [.ref 100, .int x] w (Top (-1) (RI L b n m cd Q ik kn kc kQ fn fr fz tal R)) := by
  obtain ⟨rc, rf, ro, rt, ru, rm, rg, rp, rq, ry, rl, wt, rk, rx, rz, rd, rT, rR, rN, rA, rF, rC, rO, rB, rY, rP, rb, rfl, ⟨s1, s2, s3, s4, s5, s6⟩, hB, hrx, hrw, hrz, hrk, hrl, hrd⟩ := hR
  have hm : m ≤ 200 := s4.1
  have hkn : kn ≤ 200 := s5.1
  have hL : L ≤ 120 := s1
  have s3 : n ≤ m := s3
  have hn : n ≤ 200 := Nat.le_trans s3 s4.1
  have s6 : fn ≤ 8 := s6
  have hrx : ∀ j, j < m → rx j = nI (cd j) := hrx
  have hrw : ∀ j, j ≤ m → wt j = bt (Q j) := hrw
  have hrl : ∀ j, j < fn → rl j = fr j := hrl
  have hrd : ∀ j, j < 12 → rd j = tal j := hrd
  have hQn : wt n = bt (Q n) := hrw n s3
  have hVn : Vq (Q n) := s4.2.2.1 n s3
  refine semP_of (by decide) (Nat.le_of_ble_eq_true rfl) rfl ?_
  have h : x < nI 0 ∨ nI 2 < x := by
    rw [Int32.lt_iff_toInt_lt, Int32.lt_iff_toInt_lt]
    exact h
  refine r_iload_n dX9_count_0 rfl ?_
  refine r_iconst (v := (nI 0)) dX9_count_1 (by decide) ?_
  refine r_iconst (v := (nI 2)) dX9_count_2 (by decide) ?_
  refine r_cS dX9_count_3 (m_isIn _ _ _ _) lX9_147 rfl rfl (by decide) ⟨Nat.le_refl _, Nat.le_refl _⟩ (Nat.le_of_ble_eq_true rfl) ?_
  rw [out_dec h]
  refine r_if_ne 11 dX9_count_6 (by decide) (fun h6 => ?_) (fun h6 => ?_)
  · exact absurd rfl h6
  · refine r_pc 9 rfl ?_
    refine r_iconst (v := (-1)) dX9_count_9 (by decide) ?_
    exact r_iretP dX9_count_10 rfl ⟨rfl, _, _, _, _, _, _, _, _, _, _, _, _, _, _, _, _, _, _, _, _, _, _, _, _, _, _, _, rfl, ⟨⟨s1, s2, s3, s4, s5, s6⟩, hB, hrx, hrw, hrz, hrk, hrl, hrd⟩⟩
theorem d_pic_b {x : Int32} (hR : RI L b n m cd Q ik kn kc kQ fn fr fz tal R w) (h : x < -1) : SemP mX9_picture 6 0 0 [.ref 100, .int x] w (Top (-1) (RI L b n m cd Q ik kn kc kQ fn fr fz tal R)) := by
  obtain ⟨rc, rf, ro, rt, ru, rm, rg, rp, rq, ry, rl, wt, rk, rx, rz, rd, rT, rR, rN, rA, rF, rC, rO, rB, rY, rP, rb, rfl, ⟨s1, s2, s3, s4, s5, s6⟩, hB, hrx, hrw, hrz, hrk, hrl, hrd⟩ := hR
  have hm : m ≤ 200 := s4.1
  have hkn : kn ≤ 200 := s5.1
  have hL : L ≤ 120 := s1
  have s3 : n ≤ m := s3
  have hn : n ≤ 200 := Nat.le_trans s3 s4.1
  have s6 : fn ≤ 8 := s6
  have hrx : ∀ j, j < m → rx j = nI (cd j) := hrx
  have hrw : ∀ j, j ≤ m → wt j = bt (Q j) := hrw
  have hrl : ∀ j, j < fn → rl j = fr j := hrl
  have hrd : ∀ j, j < 12 → rd j = tal j := hrd
  have hQn : wt n = bt (Q n) := hrw n s3
  have hVn : Vq (Q n) := s4.2.2.1 n s3
  refine semP_of (by decide) (Nat.le_of_ble_eq_true rfl) rfl ?_
  refine r_iload_n dX9_picture_0 rfl ?_
  refine r_iconst (v := (-1)) dX9_picture_1 (by decide) ?_
  refine r_icmp_ge 7 dX9_picture_2 (by decide) (fun h2 => ?_) (fun h2 => ?_)
  · exact absurd h2 (fun z => ge_m1.mp z h)
  · refine r_pc 5 rfl ?_
    refine r_iconst (v := (-1)) dX9_picture_5 (by decide) ?_
    exact r_iretP dX9_picture_6 rfl ⟨rfl, _, _, _, _, _, _, _, _, _, _, _, _, _, _, _, _, _, _, _, _, _, _, _, _, _, _, _, rfl, ⟨⟨s1, s2, s3, s4, s5, s6⟩, hB, hrx, hrw, hrz, hrk, hrl, hrd⟩⟩
theorem d_pic_m (hR : RI L b n m cd Q ik kn kc kQ fn fr fz tal R w) : SemP mX9_picture 6 0 0 [.ref 100, .int (-1)] w (Top (nI 36) (RI L b n m cd Q ik kn kc kQ fn fr fz tal R)) := by
  obtain ⟨rc, rf, ro, rt, ru, rm, rg, rp, rq, ry, rl, wt, rk, rx, rz, rd, rT, rR, rN, rA, rF, rC, rO, rB, rY, rP, rb, rfl, ⟨s1, s2, s3, s4, s5, s6⟩, hB, hrx, hrw, hrz, hrk, hrl, hrd⟩ := hR
  have hm : m ≤ 200 := s4.1
  have hkn : kn ≤ 200 := s5.1
  have hL : L ≤ 120 := s1
  have s3 : n ≤ m := s3
  have hn : n ≤ 200 := Nat.le_trans s3 s4.1
  have s6 : fn ≤ 8 := s6
  have hrx : ∀ j, j < m → rx j = nI (cd j) := hrx
  have hrw : ∀ j, j ≤ m → wt j = bt (Q j) := hrw
  have hrl : ∀ j, j < fn → rl j = fr j := hrl
  have hrd : ∀ j, j < 12 → rd j = tal j := hrd
  have hQn : wt n = bt (Q n) := hrw n s3
  have hVn : Vq (Q n) := s4.2.2.1 n s3
  refine semP_of (by decide) (Nat.le_of_ble_eq_true rfl) rfl ?_
  refine r_iload_n dX9_picture_0 rfl ?_
  refine r_iconst (v := (-1)) dX9_picture_1 (by decide) ?_
  refine r_icmp_ge 7 dX9_picture_2 (by decide) (fun h2 => ?_) (fun h2 => ?_)
  · refine r_pc 7 rfl ?_
    refine r_iload_n dX9_picture_7 rfl ?_
    refine r_if_ge 14 dX9_picture_8 (by decide) (fun h8 => ?_) (fun h8 => ?_)
    · exact absurd h8 (by decide)
    · refine r_pc 11 rfl ?_
      refine r_bipush (v := (nI 36)) dX9_picture_11 (by decide) ?_
      exact r_iretP dX9_picture_13 rfl ⟨rfl, _, _, _, _, _, _, _, _, _, _, _, _, _, _, _, _, _, _, _, _, _, _, _, _, _, _, _, rfl, ⟨⟨s1, s2, s3, s4, s5, s6⟩, hB, hrx, hrw, hrz, hrk, hrl, hrd⟩⟩
  · exact absurd (by decide) h2
theorem d_pic_2 {i : Nat} (hR : RI L b n m cd Q ik kn kc kQ fn fr fz tal R w) (h : 36 ≤ i) (hi : i < 2 ^ 31) : SemP mX9_picture 6 0 0 [.ref 100, .int (nI i)] w (Top (-2) (RI L b n m cd Q ik kn kc kQ fn fr fz tal R)) := by
  obtain ⟨rc, rf, ro, rt, ru, rm, rg, rp, rq, ry, rl, wt, rk, rx, rz, rd, rT, rR, rN, rA, rF, rC, rO, rB, rY, rP, rb, rfl, ⟨s1, s2, s3, s4, s5, s6⟩, hB, hrx, hrw, hrz, hrk, hrl, hrd⟩ := hR
  have hm : m ≤ 200 := s4.1
  have hkn : kn ≤ 200 := s5.1
  have hL : L ≤ 120 := s1
  have s3 : n ≤ m := s3
  have hn : n ≤ 200 := Nat.le_trans s3 s4.1
  have s6 : fn ≤ 8 := s6
  have hrx : ∀ j, j < m → rx j = nI (cd j) := hrx
  have hrw : ∀ j, j ≤ m → wt j = bt (Q j) := hrw
  have hrl : ∀ j, j < fn → rl j = fr j := hrl
  have hrd : ∀ j, j < 12 → rd j = tal j := hrd
  have hQn : wt n = bt (Q n) := hrw n s3
  have hVn : Vq (Q n) := s4.2.2.1 n s3
  refine semP_of (by decide) (Nat.le_of_ble_eq_true rfl) rfl ?_
  refine r_iload_n dX9_picture_0 rfl ?_
  refine r_iconst (v := (-1)) dX9_picture_1 (by decide) ?_
  refine r_icmp_ge 7 dX9_picture_2 (by decide) (fun h2 => ?_) (fun h2 => ?_)
  · refine r_pc 7 rfl ?_
    refine r_iload_n dX9_picture_7 rfl ?_
    refine r_if_ge 14 dX9_picture_8 (by decide) (fun h8 => ?_) (fun h8 => ?_)
    · refine r_pc 14 rfl ?_
      refine r_iload_n dX9_picture_14 rfl ?_
      refine r_bipush (v := (nI 36)) dX9_picture_15 (by decide) ?_
      refine r_icmp_ltN 23 dX9_picture_17 (by decide) (by omega) (by omega) (fun h17 => ?_) (fun h17 => ?_)
      · exact absurd h17 (by omega)
      · refine r_pc 20 rfl ?_
        refine r_bipush (v := (-2)) dX9_picture_20 (by decide) ?_
        exact r_iretP dX9_picture_22 rfl ⟨rfl, _, _, _, _, _, _, _, _, _, _, _, _, _, _, _, _, _, _, _, _, _, _, _, _, _, _, _, rfl, ⟨⟨s1, s2, s3, s4, s5, s6⟩, hB, hrx, hrw, hrz, hrk, hrl, hrd⟩⟩
    · exact absurd (nI_pos' (by omega)) h8
  · exact absurd (ge_m1.mpr (nI_ge_m1 _ (by omega))) h2
theorem d_pic_n {i : Nat} (hR : RI L b n m cd Q ik kn kc kQ fn fr fz tal R w) (h : i < 36) (h8_ : i % 9 = 8) : SemP mX9_picture 6 0 0 [.ref 100, .int (nI i)] w (Top (nI 10) (RI L b n m cd Q ik kn kc kQ fn fr fz tal R)) := by
  obtain ⟨rc, rf, ro, rt, ru, rm, rg, rp, rq, ry, rl, wt, rk, rx, rz, rd, rT, rR, rN, rA, rF, rC, rO, rB, rY, rP, rb, rfl, ⟨s1, s2, s3, s4, s5, s6⟩, hB, hrx, hrw, hrz, hrk, hrl, hrd⟩ := hR
  have hm : m ≤ 200 := s4.1
  have hkn : kn ≤ 200 := s5.1
  have hL : L ≤ 120 := s1
  have s3 : n ≤ m := s3
  have hn : n ≤ 200 := Nat.le_trans s3 s4.1
  have s6 : fn ≤ 8 := s6
  have hrx : ∀ j, j < m → rx j = nI (cd j) := hrx
  have hrw : ∀ j, j ≤ m → wt j = bt (Q j) := hrw
  have hrl : ∀ j, j < fn → rl j = fr j := hrl
  have hrd : ∀ j, j < 12 → rd j = tal j := hrd
  have hQn : wt n = bt (Q n) := hrw n s3
  have hVn : Vq (Q n) := s4.2.2.1 n s3
  refine semP_of (by decide) (Nat.le_of_ble_eq_true rfl) rfl ?_
  refine r_iload_n dX9_picture_0 rfl ?_
  refine r_iconst (v := (-1)) dX9_picture_1 (by decide) ?_
  refine r_icmp_ge 7 dX9_picture_2 (by decide) (fun h2 => ?_) (fun h2 => ?_)
  · refine r_pc 7 rfl ?_
    refine r_iload_n dX9_picture_7 rfl ?_
    refine r_if_ge 14 dX9_picture_8 (by decide) (fun h8 => ?_) (fun h8 => ?_)
    · refine r_pc 14 rfl ?_
      refine r_iload_n dX9_picture_14 rfl ?_
      refine r_bipush (v := (nI 36)) dX9_picture_15 (by decide) ?_
      refine r_icmp_ltN 23 dX9_picture_17 (by decide) (by omega) (by omega) (fun h17 => ?_) (fun h17 => ?_)
      · refine r_pc 23 rfl ?_
        refine r_iload_n dX9_picture_23 rfl ?_
        refine r_bipush (v := (nI 9)) dX9_picture_24 (by decide) ?_
        refine r_iremN dX9_picture_26 (by omega) (by decide) (by decide) ?_
        refine r_bipush (v := (nI 8)) dX9_picture_27 (by decide) ?_
        refine r_icmp_neN 35 dX9_picture_29 (by decide) (by omega) (by omega) (fun h29 => ?_) (fun h29 => ?_)
        · exact absurd h8_ h29
        · refine r_pc 32 rfl ?_
          refine r_bipush (v := (nI 10)) dX9_picture_32 (by decide) ?_
          exact r_iretP dX9_picture_34 rfl ⟨rfl, _, _, _, _, _, _, _, _, _, _, _, _, _, _, _, _, _, _, _, _, _, _, _, _, _, _, _, rfl, ⟨⟨s1, s2, s3, s4, s5, s6⟩, hB, hrx, hrw, hrz, hrk, hrl, hrd⟩⟩
      · exact absurd h17 (by omega)
    · exact absurd (nI_pos' (by omega)) h8
  · exact absurd (ge_m1.mpr (nI_ge_m1 _ (by omega))) h2
theorem d_pic_1 {i : Nat} (hR : RI L b n m cd Q ik kn kc kQ fn fr fz tal R w) (h : i < 36) (h8_ : ¬ i % 9 = 8) : SemP mX9_picture 6 0 0 [.ref 100, .int (nI i)] w (Top (nI (sgn (sqc (Q n)) (sqf (Q n)) (4 * (3 - i / 9) + i % 9 / 2) (decide (i % 9 % 2 = 0)))) (RI L b n m cd Q ik kn kc kQ fn fr fz tal R)) := by
  obtain ⟨rc, rf, ro, rt, ru, rm, rg, rp, rq, ry, rl, wt, rk, rx, rz, rd, rT, rR, rN, rA, rF, rC, rO, rB, rY, rP, rb, rfl, ⟨s1, s2, s3, s4, s5, s6⟩, hB, hrx, hrw, hrz, hrk, hrl, hrd⟩ := hR
  have hm : m ≤ 200 := s4.1
  have hkn : kn ≤ 200 := s5.1
  have hL : L ≤ 120 := s1
  have s3 : n ≤ m := s3
  have hn : n ≤ 200 := Nat.le_trans s3 s4.1
  have s6 : fn ≤ 8 := s6
  have hrx : ∀ j, j < m → rx j = nI (cd j) := hrx
  have hrw : ∀ j, j ≤ m → wt j = bt (Q j) := hrw
  have hrl : ∀ j, j < fn → rl j = fr j := hrl
  have hrd : ∀ j, j < 12 → rd j = tal j := hrd
  have hQn : wt n = bt (Q n) := hrw n s3
  have hVn : Vq (Q n) := s4.2.2.1 n s3
  refine semP_of (by decide) (Nat.le_of_ble_eq_true rfl) rfl ?_
  have hx : 4 * (3 - i / 9) + i % 9 / 2 < 16 := by omega
  have hd := Sd_bt (Q n) _ hx
  unfold sgn
  cases hw : who (sqc (Q n)) 8 (4 * (3 - i / 9) + i % 9 / 2) with
  | none =>
    rw [hw] at hd
    refine r_iload_n dX9_picture_0 rfl ?_
    refine r_iconst (v := (-1)) dX9_picture_1 (by decide) ?_
    refine r_icmp_ge 7 dX9_picture_2 (by decide) (fun h2 => ?_) (fun h2 => ?_)
    · refine r_pc 7 rfl ?_
      refine r_iload_n dX9_picture_7 rfl ?_
      refine r_if_ge 14 dX9_picture_8 (by decide) (fun h8 => ?_) (fun h8 => ?_)
      · refine r_pc 14 rfl ?_
        refine r_iload_n dX9_picture_14 rfl ?_
        refine r_bipush (v := (nI 36)) dX9_picture_15 (by decide) ?_
        refine r_icmp_ltN 23 dX9_picture_17 (by decide) (by omega) (by omega) (fun h17 => ?_) (fun h17 => ?_)
        · refine r_pc 23 rfl ?_
          refine r_iload_n dX9_picture_23 rfl ?_
          refine r_bipush (v := (nI 9)) dX9_picture_24 (by decide) ?_
          refine r_iremN dX9_picture_26 (by omega) (by decide) (by decide) ?_
          refine r_bipush (v := (nI 8)) dX9_picture_27 (by decide) ?_
          refine r_icmp_neN 35 dX9_picture_29 (by decide) (by omega) (by omega) (fun h29 => ?_) (fun h29 => ?_)
          · refine r_pc 35 rfl ?_
            refine r_aload_n dX9_picture_35 rfl ?_
            refine r_cVv dX9_picture_36 (m_look hn hQn) lX9_255 rfl rfl rfl (by decide) ⟨Nat.le_refl _, Nat.le_refl _⟩ (Nat.le_of_ble_eq_true rfl) ?_
            refine r_aload_n dX9_picture_39 rfl ?_
            refine r_get dX9_picture_40 fX9_67 rfl rfl ?_
            refine r_iconst (v := (nI 4)) dX9_picture_43 (by decide) ?_
            refine r_pc 44 rfl ?_
            refine r_iconst (v := (nI 3)) dX9_picture_44 (by decide) ?_
            refine r_iload_n dX9_picture_45 rfl ?_
            refine r_bipush (v := (nI 9)) dX9_picture_46 (by decide) ?_
            refine r_idivN dX9_picture_48 (by omega) (by decide) (by decide) ?_
            refine r_isubN dX9_picture_49 (by omega) ?_
            refine r_pc 50 rfl ?_
            refine r_imulN dX9_picture_50 ?_
            refine r_iload_n dX9_picture_51 rfl ?_
            refine r_bipush (v := (nI 9)) dX9_picture_52 (by decide) ?_
            refine r_iremN dX9_picture_54 (by omega) (by decide) (by decide) ?_
            refine r_iconst (v := (nI 2)) dX9_picture_55 (by decide) ?_
            refine r_pc 56 rfl ?_
            refine r_idivN dX9_picture_56 (by omega) (by decide) (by decide) ?_
            refine r_iaddN dX9_picture_57 ?_
            refine r_iald dX9_picture_58 rfl rfl hx (by decide) ?_
            refine r_topi _ hd ?_
            refine r_istore_n (ls' := [_, _, _]) dX9_picture_59 (by decide) rfl ?_
            refine r_iload_n dX9_picture_60 rfl ?_
            refine r_pc 61 rfl ?_
            refine r_if_ge 67 dX9_picture_61 (by decide) (fun h61 => ?_) (fun h61 => ?_)
            · exact absurd h61 (by decide)
            · refine r_pc 64 rfl ?_
              refine r_bipush (v := (nI 46)) dX9_picture_64 (by decide) ?_
              exact r_iretP dX9_picture_66 rfl ⟨rfl, _, _, _, _, _, _, _, _, _, _, _, _, _, _, _, _, _, _, _, _, _, _, _, _, _, _, _, rfl, ⟨⟨s1, s2, s3, s4, s5, s6⟩, hB, hrx, hrw, hrz, hrk, hrl, hrd⟩⟩
          · exact absurd h29 h8_
        · exact absurd h17 (by omega)
      · exact absurd (nI_pos' (by omega)) h8
    · exact absurd (ge_m1.mpr (nI_ge_m1 _ (by omega))) h2
  | some d =>
    rw [hw] at hd
    have hd8 := who_lt hw
    have hf := sqf_lt (Q n) d
    dsimp only
    by_cases z : i % 9 % 2 = 0
    · rw [decide_eq_true z, if_pos rfl]
      refine r_iload_n dX9_picture_0 rfl ?_
      refine r_iconst (v := (-1)) dX9_picture_1 (by decide) ?_
      refine r_icmp_ge 7 dX9_picture_2 (by decide) (fun h2 => ?_) (fun h2 => ?_)
      · refine r_pc 7 rfl ?_
        refine r_iload_n dX9_picture_7 rfl ?_
        refine r_if_ge 14 dX9_picture_8 (by decide) (fun h8 => ?_) (fun h8 => ?_)
        · refine r_pc 14 rfl ?_
          refine r_iload_n dX9_picture_14 rfl ?_
          refine r_bipush (v := (nI 36)) dX9_picture_15 (by decide) ?_
          refine r_icmp_ltN 23 dX9_picture_17 (by decide) (by omega) (by omega) (fun h17 => ?_) (fun h17 => ?_)
          · refine r_pc 23 rfl ?_
            refine r_iload_n dX9_picture_23 rfl ?_
            refine r_bipush (v := (nI 9)) dX9_picture_24 (by decide) ?_
            refine r_iremN dX9_picture_26 (by omega) (by decide) (by decide) ?_
            refine r_bipush (v := (nI 8)) dX9_picture_27 (by decide) ?_
            refine r_icmp_neN 35 dX9_picture_29 (by decide) (by omega) (by omega) (fun h29 => ?_) (fun h29 => ?_)
            · refine r_pc 35 rfl ?_
              refine r_aload_n dX9_picture_35 rfl ?_
              refine r_cVv dX9_picture_36 (m_look hn hQn) lX9_255 rfl rfl rfl (by decide) ⟨Nat.le_refl _, Nat.le_refl _⟩ (Nat.le_of_ble_eq_true rfl) ?_
              refine r_aload_n dX9_picture_39 rfl ?_
              refine r_get dX9_picture_40 fX9_67 rfl rfl ?_
              refine r_iconst (v := (nI 4)) dX9_picture_43 (by decide) ?_
              refine r_pc 44 rfl ?_
              refine r_iconst (v := (nI 3)) dX9_picture_44 (by decide) ?_
              refine r_iload_n dX9_picture_45 rfl ?_
              refine r_bipush (v := (nI 9)) dX9_picture_46 (by decide) ?_
              refine r_idivN dX9_picture_48 (by omega) (by decide) (by decide) ?_
              refine r_isubN dX9_picture_49 (by omega) ?_
              refine r_pc 50 rfl ?_
              refine r_imulN dX9_picture_50 ?_
              refine r_iload_n dX9_picture_51 rfl ?_
              refine r_bipush (v := (nI 9)) dX9_picture_52 (by decide) ?_
              refine r_iremN dX9_picture_54 (by omega) (by decide) (by decide) ?_
              refine r_iconst (v := (nI 2)) dX9_picture_55 (by decide) ?_
              refine r_pc 56 rfl ?_
              refine r_idivN dX9_picture_56 (by omega) (by decide) (by decide) ?_
              refine r_iaddN dX9_picture_57 ?_
              refine r_iald dX9_picture_58 rfl rfl hx (by decide) ?_
              refine r_topi _ hd ?_
              refine r_istore_n (ls' := [_, _, _]) dX9_picture_59 (by decide) rfl ?_
              refine r_iload_n dX9_picture_60 rfl ?_
              refine r_pc 61 rfl ?_
              refine r_if_ge 67 dX9_picture_61 (by decide) (fun h61 => ?_) (fun h61 => ?_)
              · refine r_pc 67 rfl ?_
                refine r_iload_n dX9_picture_67 rfl ?_
                refine r_bipush (v := (nI 9)) dX9_picture_68 (by decide) ?_
                refine r_iremN dX9_picture_70 (by omega) (by decide) (by decide) ?_
                refine r_iconst (v := (nI 2)) dX9_picture_71 (by decide) ?_
                refine r_iremN dX9_picture_72 (by omega) (by decide) (by decide) ?_
                refine r_pc 73 rfl ?_
                rw [z]
                refine r_if_ne 83 dX9_picture_73 (by decide) (fun h73 => ?_) (fun h73 => ?_)
                · exact absurd rfl h73
                · refine r_pc 76 rfl ?_
                  refine r_bipush (v := (nI 49)) dX9_picture_76 (by decide) ?_
                  refine r_iload_n dX9_picture_78 rfl ?_
                  refine r_iaddN dX9_picture_79 ?_
                  refine r_goto 95 dX9_picture_80 (by decide) ?_
                  exact r_iretP dX9_picture_95 rfl ⟨rfl, _, _, _, _, _, _, _, _, _, _, _, _, _, _, _, _, _, _, _, _, _, _, _, _, _, _, _, rfl, ⟨⟨s1, s2, s3, s4, s5, s6⟩, hB, hrx, hrw, hrz, hrk, hrl, hrd⟩⟩
              · exact absurd (nI_pos' (by omega)) h61
            · exact absurd h29 h8_
          · exact absurd h17 (by omega)
        · exact absurd (nI_pos' (by omega)) h8
      · exact absurd (ge_m1.mpr (nI_ge_m1 _ (by omega))) h2
    · rw [decide_eq_false z, if_neg (by decide)]
      have hq : zt_str[22]? = some [94, 62, 118, 60] := by decide
      refine r_iload_n dX9_picture_0 rfl ?_
      refine r_iconst (v := (-1)) dX9_picture_1 (by decide) ?_
      refine r_icmp_ge 7 dX9_picture_2 (by decide) (fun h2 => ?_) (fun h2 => ?_)
      · refine r_pc 7 rfl ?_
        refine r_iload_n dX9_picture_7 rfl ?_
        refine r_if_ge 14 dX9_picture_8 (by decide) (fun h8 => ?_) (fun h8 => ?_)
        · refine r_pc 14 rfl ?_
          refine r_iload_n dX9_picture_14 rfl ?_
          refine r_bipush (v := (nI 36)) dX9_picture_15 (by decide) ?_
          refine r_icmp_ltN 23 dX9_picture_17 (by decide) (by omega) (by omega) (fun h17 => ?_) (fun h17 => ?_)
          · refine r_pc 23 rfl ?_
            refine r_iload_n dX9_picture_23 rfl ?_
            refine r_bipush (v := (nI 9)) dX9_picture_24 (by decide) ?_
            refine r_iremN dX9_picture_26 (by omega) (by decide) (by decide) ?_
            refine r_bipush (v := (nI 8)) dX9_picture_27 (by decide) ?_
            refine r_icmp_neN 35 dX9_picture_29 (by decide) (by omega) (by omega) (fun h29 => ?_) (fun h29 => ?_)
            · refine r_pc 35 rfl ?_
              refine r_aload_n dX9_picture_35 rfl ?_
              refine r_cVv dX9_picture_36 (m_look hn hQn) lX9_255 rfl rfl rfl (by decide) ⟨Nat.le_refl _, Nat.le_refl _⟩ (Nat.le_of_ble_eq_true rfl) ?_
              refine r_aload_n dX9_picture_39 rfl ?_
              refine r_get dX9_picture_40 fX9_67 rfl rfl ?_
              refine r_iconst (v := (nI 4)) dX9_picture_43 (by decide) ?_
              refine r_pc 44 rfl ?_
              refine r_iconst (v := (nI 3)) dX9_picture_44 (by decide) ?_
              refine r_iload_n dX9_picture_45 rfl ?_
              refine r_bipush (v := (nI 9)) dX9_picture_46 (by decide) ?_
              refine r_idivN dX9_picture_48 (by omega) (by decide) (by decide) ?_
              refine r_isubN dX9_picture_49 (by omega) ?_
              refine r_pc 50 rfl ?_
              refine r_imulN dX9_picture_50 ?_
              refine r_iload_n dX9_picture_51 rfl ?_
              refine r_bipush (v := (nI 9)) dX9_picture_52 (by decide) ?_
              refine r_iremN dX9_picture_54 (by omega) (by decide) (by decide) ?_
              refine r_iconst (v := (nI 2)) dX9_picture_55 (by decide) ?_
              refine r_pc 56 rfl ?_
              refine r_idivN dX9_picture_56 (by omega) (by decide) (by decide) ?_
              refine r_iaddN dX9_picture_57 ?_
              refine r_iald dX9_picture_58 rfl rfl hx (by decide) ?_
              refine r_topi _ hd ?_
              refine r_istore_n (ls' := [_, _, _]) dX9_picture_59 (by decide) rfl ?_
              refine r_iload_n dX9_picture_60 rfl ?_
              refine r_pc 61 rfl ?_
              refine r_if_ge 67 dX9_picture_61 (by decide) (fun h61 => ?_) (fun h61 => ?_)
              · refine r_pc 67 rfl ?_
                refine r_iload_n dX9_picture_67 rfl ?_
                refine r_bipush (v := (nI 9)) dX9_picture_68 (by decide) ?_
                refine r_iremN dX9_picture_70 (by omega) (by decide) (by decide) ?_
                refine r_iconst (v := (nI 2)) dX9_picture_71 (by decide) ?_
                refine r_iremN dX9_picture_72 (by omega) (by decide) (by decide) ?_
                refine r_pc 73 rfl ?_
                refine r_if_ne 83 dX9_picture_73 (by decide) (fun h73 => ?_) (fun h73 => ?_)
                · refine r_pc 83 rfl ?_
                  refine r_ldcwS (i := 22) dX9_picture_83 (by decide) ?_
                  refine r_aload_n dX9_picture_86 rfl ?_
                  refine r_get dX9_picture_87 fX9_64 rfl rfl ?_
                  refine r_iload_n dX9_picture_90 rfl ?_
                  refine r_iald dX9_picture_91 rfl rfl hd8 (by decide) ?_
                  refine r_pc 92 rfl ?_
                  refine r_topi _ (congrArg nI (bt_f (Q n) hd8)) ?_
                  refine r_cT dX9_picture_92 hq (s_charAt _ hq (show sqf (Q n) d < 4 from hf)) lX9_215 rfl rfl (by decide) ⟨Nat.le_refl _, Nat.le_refl _⟩ (Nat.le_of_ble_eq_true rfl) ?_
                  exact r_iretP dX9_picture_95 rfl ⟨rfl, _, _, _, _, _, _, _, _, _, _, _, _, _, _, _, _, _, _, _, _, _, _, _, _, _, _, _, rfl, ⟨⟨s1, s2, s3, s4, s5, s6⟩, hB, hrx, hrw, hrz, hrk, hrl, hrd⟩⟩
                · exact absurd (nI_z (by omega) h73) z
              · exact absurd (nI_pos' (by omega)) h61
            · exact absurd h29 h8_
          · exact absurd h17 (by omega)
        · exact absurd (nI_pos' (by omega)) h8
      · exact absurd (ge_m1.mpr (nI_ge_m1 _ (by omega))) h2
theorem d_image (hR : RI L b n m cd Q ik kn kc kQ fn fr fz tal R w) : SemP mX9_image 3 0 0 [.ref 100] w (Top (nI n) (RI L b n m cd Q (true) (n) (cd) (Q) fn fr fz tal R)) := by
  obtain ⟨rc, rf, ro, rt, ru, rm, rg, rp, rq, ry, rl, wt, rk, rx, rz, rd, rT, rR, rN, rA, rF, rC, rO, rB, rY, rP, rb, rfl, ⟨s1, s2, s3, s4, s5, s6⟩, hB, hrx, hrw, hrz, hrk, hrl, hrd⟩ := hR
  have hm : m ≤ 200 := s4.1
  have hkn : kn ≤ 200 := s5.1
  have hL : L ≤ 120 := s1
  have s3 : n ≤ m := s3
  have hn : n ≤ 200 := Nat.le_trans s3 s4.1
  have s6 : fn ≤ 8 := s6
  have hrx : ∀ j, j < m → rx j = nI (cd j) := hrx
  have hrw : ∀ j, j ≤ m → wt j = bt (Q j) := hrw
  have hrl : ∀ j, j < fn → rl j = fr j := hrl
  have hrd : ∀ j, j < 12 → rd j = tal j := hrd
  have hQn : wt n = bt (Q n) := hrw n s3
  have hVn : Vq (Q n) := s4.2.2.1 n s3
  refine semP_of (by decide) (Nat.le_of_ble_eq_true rfl) rfl ?_
  have s5' : Dn n cd Q := ⟨hn, fun j hj => s4.2.1 j (by omega), fun j hj => s4.2.2.1 j (by omega), s4.2.2.2⟩
  generalize hw0 : (R, mW rc rf ro rt ru rm rg rp rq ry rl (nI fn) (fz) (wt) rk rx rz rd (nI n) (nI (m - n)) (rkI ik kn) rT rR (nI L) rN rA rF rC rO rB rY rP rb) = w0
  have L2 : ∀ (k i : Nat) (rk : Nat → Int64) (rz : Nat → Int32), i + k = n → (∀ j, j ≤ n → rk j = wt j) → (∀ j, j < i → rz j = rx j) → Rp mX9_image 3 0 0 w0 (Top (nI n) (RI L b n m cd Q (true) (n) (cd) (Q) fn fr fz tal R)) 0 0 30 [some (.ref 100), some (.int (nI i))] [] (R, mW rc rf ro rt ru rm rg rp rq ry rl (nI fn) (fz) (wt) rk rx rz rd (nI n) (nI (m - n)) (rkI ik kn) rT rR (nI L) rN rA rF rC rO rB rY rP rb) := by
    intro k
    induction k with
    | zero =>
      intro i rk rz hi h1 h2
      have : i = n := by omega
      subst this
      refine r_iload_n dX9_image_30 rfl ?_
      refine r_aload_n dX9_image_31 rfl ?_
      refine r_get dX9_image_32 fX9_144 rfl rfl ?_
      refine r_icmp_geN 56 dX9_image_35 (by decide) (by omega) (by omega) (fun h35 => ?_) (fun h35 => ?_)
      · refine r_pc 56 rfl ?_
        refine r_aload_n dX9_image_56 rfl ?_
        refine r_aload_n dX9_image_57 rfl ?_
        refine r_get dX9_image_58 fX9_144 rfl rfl ?_
        refine r_put (w2 := (_, mW _ _ _ _ _ _ _ _ _ _ _ _ _ _ _ _ _ _ _ _ _ _ _ _ _ _ _ _ _ _ _ _ _)) dX9_image_61 fX9_105 rfl rfl (Nat.le_of_ble_eq_true rfl) (fun _ => rfl) (fun _ => rfl) rfl ?_
        refine r_aload_n dX9_image_64 rfl ?_
        refine r_pc 65 rfl ?_
        refine r_get dX9_image_65 fX9_144 rfl rfl ?_
        exact r_iretP dX9_image_68 rfl ⟨rfl, _, _, _, _, _, _, _, _, _, _, _, _, _, _, _, _, _, _, _, _, _, _, _, _, _, _, _, rfl, ⟨⟨s1, s2, s3, s4, s5', s6⟩, hB, hrx, hrw, fun _ j hj => by rw [h2 j hj, hrx j (by omega)], fun _ j hj => by rw [h1 j hj, hrw j (by omega)], hrl, hrd⟩⟩
      · exact absurd h35 (by omega)
    | succ k ih =>
      intro i rk rz hi h1 h2
      refine r_iload_n dX9_image_30 rfl ?_
      refine r_aload_n dX9_image_31 rfl ?_
      refine r_get dX9_image_32 fX9_144 rfl rfl ?_
      refine r_icmp_geN 56 dX9_image_35 (by decide) (by omega) (by omega) (fun h35 => ?_) (fun h35 => ?_)
      · exact absurd h35 (by omega)
      · refine r_pc 38 rfl ?_
        refine r_aload_n dX9_image_38 rfl ?_
        refine r_get dX9_image_39 fX9_99 rfl rfl ?_
        refine r_iload_n dX9_image_42 rfl ?_
        refine r_aload_n dX9_image_43 rfl ?_
        refine r_get dX9_image_44 fX9_96 rfl rfl ?_
        refine r_pc 47 rfl ?_
        refine r_iload_n dX9_image_47 rfl ?_
        refine r_iald dX9_image_48 rfl rfl (by omega) (by decide) ?_
        refine r_iast (w2 := (_, mW _ _ _ _ _ _ _ _ _ _ _ _ _ _ _ _ _ _ _ _ _ _ _ _ _ _ _ _ _ _ _ _ _)) dX9_image_49 rfl rfl (by omega) (by decide) rfl ?_
        refine r_inc1 (ls' := [_, _]) dX9_image_50 (by decide) rfl rfl ?_
        refine r_goto 30 dX9_image_53 (by decide) ?_
        refine r_pc 30 rfl ?_
        exact ih (i + 1) _ _ (by omega) h1 (upd_lt (g := rx) h2 rfl)
  have L1 : ∀ (k i : Nat) (rk : Nat → Int64), i + k = n + 1 → (∀ j, j < i → rk j = wt j) → Rp mX9_image 3 0 0 w0 (Top (nI n) (RI L b n m cd Q (true) (n) (cd) (Q) fn fr fz tal R)) 0 0 2 [some (.ref 100), some (.int (nI i))] [] (R, mW rc rf ro rt ru rm rg rp rq ry rl (nI fn) (fz) (wt) rk rx rz rd (nI n) (nI (m - n)) (rkI ik kn) rT rR (nI L) rN rA rF rC rO rB rY rP rb) := by
    intro k
    induction k with
    | zero =>
      intro i rk hi h1
      refine r_iload_n dX9_image_2 rfl ?_
      refine r_aload_n dX9_image_3 rfl ?_
      refine r_get dX9_image_4 fX9_144 rfl rfl ?_
      refine r_icmp_gtN 28 dX9_image_7 (by decide) (by omega) (by omega) (fun h7 => ?_) (fun h7 => ?_)
      · refine r_pc 28 rfl ?_
        refine r_iconst (v := (nI 0)) dX9_image_28 (by decide) ?_
        refine r_istore_n (ls' := [_, _]) dX9_image_29 (by decide) rfl ?_
        refine r_pc 30 rfl ?_
        exact L2 n 0 _ _ (by omega) (fun j hj => h1 j (by omega)) (fun j h => absurd h (by omega))
      · exact absurd h7 (by omega)
    | succ k ih =>
      intro i rk hi h1
      refine r_iload_n dX9_image_2 rfl ?_
      refine r_aload_n dX9_image_3 rfl ?_
      refine r_get dX9_image_4 fX9_144 rfl rfl ?_
      refine r_icmp_gtN 28 dX9_image_7 (by decide) (by omega) (by omega) (fun h7 => ?_) (fun h7 => ?_)
      · exact absurd h7 (by omega)
      · refine r_pc 10 rfl ?_
        refine r_aload_n dX9_image_10 rfl ?_
        refine r_get dX9_image_11 fX9_93 rfl rfl ?_
        refine r_iload_n dX9_image_14 rfl ?_
        refine r_aload_n dX9_image_15 rfl ?_
        refine r_get dX9_image_16 fX9_89 rfl rfl ?_
        refine r_pc 19 rfl ?_
        refine r_iload_n dX9_image_19 rfl ?_
        refine r_lald dX9_image_20 rfl rfl (by omega) (by decide) ?_
        refine r_last (w2 := (_, mW _ _ _ _ _ _ _ _ _ _ _ _ _ _ _ _ _ _ _ _ _ _ _ _ _ _ _ _ _ _ _ _ _)) dX9_image_21 rfl rfl (by omega) (by decide) rfl ?_
        refine r_inc1 (ls' := [_, _]) dX9_image_22 (by decide) rfl rfl ?_
        refine r_goto 2 dX9_image_25 (by decide) ?_
        refine r_pc 2 rfl ?_
        exact ih (i + 1) _ (by omega) (upl_lt h1)
  subst hw0
  refine r_iconst (v := (nI 0)) dX9_image_0 (by decide) ?_
  refine r_istore_n (ls' := [_, _]) dX9_image_1 (by decide) rfl ?_
  refine r_pc 2 rfl ?_
  exact L1 (n + 1) 0 _ (by omega) (fun j h => absurd h (by omega))
theorem d_back0 (hR : RI L b n m cd Q (false) kn kc kQ fn fr fz tal R w) : SemP mX9_back 3 0 0 [.ref 100] w (Top (-5) (RI L b n m cd Q (false) kn kc kQ fn fr fz tal R)) := by
  obtain ⟨rc, rf, ro, rt, ru, rm, rg, rp, rq, ry, rl, wt, rk, rx, rz, rd, rT, rR, rN, rA, rF, rC, rO, rB, rY, rP, rb, rfl, ⟨s1, s2, s3, s4, s5, s6⟩, hB, hrx, hrw, hrz, hrk, hrl, hrd⟩ := hR
  have hm : m ≤ 200 := s4.1
  have hkn : kn ≤ 200 := s5.1
  have hL : L ≤ 120 := s1
  have s3 : n ≤ m := s3
  have hn : n ≤ 200 := Nat.le_trans s3 s4.1
  have s6 : fn ≤ 8 := s6
  have hrx : ∀ j, j < m → rx j = nI (cd j) := hrx
  have hrw : ∀ j, j ≤ m → wt j = bt (Q j) := hrw
  have hrl : ∀ j, j < fn → rl j = fr j := hrl
  have hrd : ∀ j, j < 12 → rd j = tal j := hrd
  have hQn : wt n = bt (Q n) := hrw n s3
  have hVn : Vq (Q n) := s4.2.2.1 n s3
  refine semP_of (by decide) (Nat.le_of_ble_eq_true rfl) rfl ?_
  refine r_aload_n dX9_back_0 rfl ?_
  refine r_get dX9_back_1 fX9_105 rfl rfl ?_
  refine r_if_ge 10 dX9_back_4 (by decide) (fun h4 => ?_) (fun h4 => ?_)
  · exact absurd h4 (show ¬ (0 : Int32) ≤ -2 by decide)
  · refine r_pc 7 rfl ?_
    refine r_bipush (v := (-5)) dX9_back_7 (by decide) ?_
    exact r_iretP dX9_back_9 rfl ⟨rfl, _, _, _, _, _, _, _, _, _, _, _, _, _, _, _, _, _, _, _, _, _, _, _, _, _, _, _, rfl, ⟨⟨s1, s2, s3, s4, s5, s6⟩, hB, hrx, hrw, hrz, hrk, hrl, hrd⟩⟩
theorem d_back1 (hR : RI L b n m cd Q (true) kn kc kQ fn fr fz tal R w) : SemP mX9_back 3 0 0 [.ref 100] w (Top (nI kn) (RI L b (kn) (kn) (kc) (kQ) (true) kn kc kQ fn fr fz tal R)) := by
  obtain ⟨rc, rf, ro, rt, ru, rm, rg, rp, rq, ry, rl, wt, rk, rx, rz, rd, rT, rR, rN, rA, rF, rC, rO, rB, rY, rP, rb, rfl, ⟨s1, s2, s3, s4, s5, s6⟩, hB, hrx, hrw, hrz, hrk, hrl, hrd⟩ := hR
  have hm : m ≤ 200 := s4.1
  have hkn : kn ≤ 200 := s5.1
  have hL : L ≤ 120 := s1
  have s3 : n ≤ m := s3
  have hn : n ≤ 200 := Nat.le_trans s3 s4.1
  have s6 : fn ≤ 8 := s6
  have hrx : ∀ j, j < m → rx j = nI (cd j) := hrx
  have hrw : ∀ j, j ≤ m → wt j = bt (Q j) := hrw
  have hrl : ∀ j, j < fn → rl j = fr j := hrl
  have hrd : ∀ j, j < 12 → rd j = tal j := hrd
  have hQn : wt n = bt (Q n) := hrw n s3
  have hVn : Vq (Q n) := s4.2.2.1 n s3
  refine semP_of (by decide) (Nat.le_of_ble_eq_true rfl) rfl ?_
  have hrz := hrz rfl
  have hrk := hrk rfl
  generalize hw0 : (R, mW rc rf ro rt ru rm rg rp rq ry rl (nI fn) (fz) (wt) rk rx rz rd (nI n) (nI (m - n)) (rkI true kn) rT rR (nI L) rN rA rF rC rO rB rY rP rb) = w0
  have L2 : ∀ (k i : Nat) (wt : Nat → Int64) (rx : Nat → Int32), i + k = kn → (∀ j, j ≤ kn → wt j = rk j) → (∀ j, j < i → rx j = rz j) → Rp mX9_back 3 0 0 w0 (Top (nI kn) (RI L b (kn) (kn) (kc) (kQ) (true) kn kc kQ fn fr fz tal R)) 0 0 53 [some (.ref 100), some (.int (nI i))] [] (R, mW rc rf ro rt ru rm rg rp rq ry rl (nI fn) (fz) (wt) rk rx rz rd (nI kn) (nI 0) (rkI true kn) rT rR (nI L) rN rA rF rC rO rB rY rP rb) := by
    intro k
    induction k with
    | zero =>
      intro i wt rx hi h1 h2
      have : i = kn := by omega
      subst this
      have e : nI (i - i) = nI 0 := congrArg nI (by omega)
      refine r_iload_n dX9_back_53 rfl ?_
      refine r_aload_n dX9_back_54 rfl ?_
      refine r_get dX9_back_55 fX9_144 rfl rfl ?_
      refine r_icmp_geN 79 dX9_back_58 (by decide) (by omega) (by omega) (fun h58 => ?_) (fun h58 => ?_)
      · refine r_pc 79 rfl ?_
        refine r_aload_n dX9_back_79 rfl ?_
        refine r_get dX9_back_80 fX9_144 rfl rfl ?_
        exact r_iretP dX9_back_83 rfl ⟨rfl, _, _, _, _, _, _, _, _, _, _, _, _, _, _, _, _, _, _, _, _, _, _, _, _, _, _, _, by rw [← e], ⟨⟨s1, s2, Nat.le_refl _, s5, s5, s6⟩, hB, fun j hj => by rw [h2 j hj, hrz j hj], fun j hj => by rw [h1 j hj, hrk j hj], fun _ => hrz, fun _ => hrk, hrl, hrd⟩⟩
      · exact absurd h58 (by omega)
    | succ k ih =>
      intro i wt rx hi h1 h2
      refine r_iload_n dX9_back_53 rfl ?_
      refine r_aload_n dX9_back_54 rfl ?_
      refine r_get dX9_back_55 fX9_144 rfl rfl ?_
      refine r_icmp_geN 79 dX9_back_58 (by decide) (by omega) (by omega) (fun h58 => ?_) (fun h58 => ?_)
      · exact absurd h58 (by omega)
      · refine r_pc 61 rfl ?_
        refine r_aload_n dX9_back_61 rfl ?_
        refine r_get dX9_back_62 fX9_96 rfl rfl ?_
        refine r_iload_n dX9_back_65 rfl ?_
        refine r_aload_n dX9_back_66 rfl ?_
        refine r_get dX9_back_67 fX9_99 rfl rfl ?_
        refine r_pc 70 rfl ?_
        refine r_iload_n dX9_back_70 rfl ?_
        refine r_iald dX9_back_71 rfl rfl (by omega) (by decide) ?_
        refine r_iast (w2 := (_, mW _ _ _ _ _ _ _ _ _ _ _ _ _ _ _ _ _ _ _ _ _ _ _ _ _ _ _ _ _ _ _ _ _)) dX9_back_72 rfl rfl (by omega) (by decide) rfl ?_
        refine r_inc1 (ls' := [_, _]) dX9_back_73 (by decide) rfl rfl ?_
        refine r_goto 53 dX9_back_76 (by decide) ?_
        refine r_pc 53 rfl ?_
        exact ih (i + 1) _ _ (by omega) h1 (upd_lt (g := rz) h2 rfl)
  have L1 : ∀ (k i : Nat) (wt : Nat → Int64), i + k = kn + 1 → (∀ j, j < i → wt j = rk j) → Rp mX9_back 3 0 0 w0 (Top (nI kn) (RI L b (kn) (kn) (kc) (kQ) (true) kn kc kQ fn fr fz tal R)) 0 0 25 [some (.ref 100), some (.int (nI i))] [] (R, mW rc rf ro rt ru rm rg rp rq ry rl (nI fn) (fz) (wt) rk rx rz rd (nI kn) (nI 0) (rkI true kn) rT rR (nI L) rN rA rF rC rO rB rY rP rb) := by
    intro k
    induction k with
    | zero =>
      intro i wt hi h1
      refine r_iload_n dX9_back_25 rfl ?_
      refine r_aload_n dX9_back_26 rfl ?_
      refine r_get dX9_back_27 fX9_144 rfl rfl ?_
      refine r_icmp_gtN 51 dX9_back_30 (by decide) (by omega) (by omega) (fun h30 => ?_) (fun h30 => ?_)
      · refine r_pc 51 rfl ?_
        refine r_iconst (v := (nI 0)) dX9_back_51 (by decide) ?_
        refine r_istore_n (ls' := [_, _]) dX9_back_52 (by decide) rfl ?_
        refine r_pc 53 rfl ?_
        exact L2 kn 0 _ _ (by omega) (fun j hj => h1 j (by omega)) (fun j h => absurd h (by omega))
      · exact absurd h30 (by omega)
    | succ k ih =>
      intro i wt hi h1
      refine r_iload_n dX9_back_25 rfl ?_
      refine r_aload_n dX9_back_26 rfl ?_
      refine r_get dX9_back_27 fX9_144 rfl rfl ?_
      refine r_icmp_gtN 51 dX9_back_30 (by decide) (by omega) (by omega) (fun h30 => ?_) (fun h30 => ?_)
      · exact absurd h30 (by omega)
      · refine r_pc 33 rfl ?_
        refine r_aload_n dX9_back_33 rfl ?_
        refine r_get dX9_back_34 fX9_89 rfl rfl ?_
        refine r_iload_n dX9_back_37 rfl ?_
        refine r_aload_n dX9_back_38 rfl ?_
        refine r_get dX9_back_39 fX9_93 rfl rfl ?_
        refine r_pc 42 rfl ?_
        refine r_iload_n dX9_back_42 rfl ?_
        refine r_lald dX9_back_43 rfl rfl (by omega) (by decide) ?_
        refine r_last (w2 := (_, mW _ _ _ _ _ _ _ _ _ _ _ _ _ _ _ _ _ _ _ _ _ _ _ _ _ _ _ _ _ _ _ _ _)) dX9_back_44 rfl rfl (by omega) (by decide) rfl ?_
        refine r_inc1 (ls' := [_, _]) dX9_back_45 (by decide) rfl rfl ?_
        refine r_goto 25 dX9_back_48 (by decide) ?_
        refine r_pc 25 rfl ?_
        exact ih (i + 1) _ (by omega) (upl_lt h1)
  subst hw0
  refine r_aload_n dX9_back_0 rfl ?_
  refine r_get dX9_back_1 fX9_105 rfl rfl ?_
  refine r_if_ge 10 dX9_back_4 (by decide) (fun h4 => ?_) (fun h4 => ?_)
  · refine r_pc 10 rfl ?_
    refine r_aload_n dX9_back_10 rfl ?_
    refine r_aload_n dX9_back_11 rfl ?_
    refine r_get dX9_back_12 fX9_105 rfl rfl ?_
    refine r_put (w2 := (_, mW _ _ _ _ _ _ _ _ _ _ _ _ _ _ _ _ _ _ _ _ _ _ _ _ _ _ _ _ _ _ _ _ _)) dX9_back_15 fX9_144 rfl rfl (Nat.le_of_ble_eq_true rfl) (fun _ => rfl) (fun _ => rfl) rfl ?_
    refine r_aload_n dX9_back_18 rfl ?_
    refine r_pc 19 rfl ?_
    refine r_iconst (v := (nI 0)) dX9_back_19 (by decide) ?_
    refine r_put (w2 := (_, mW _ _ _ _ _ _ _ _ _ _ _ _ _ _ _ _ _ _ _ _ _ _ _ _ _ _ _ _ _ _ _ _ _)) dX9_back_20 fX9_252 rfl rfl (Nat.le_of_ble_eq_true rfl) (fun _ => rfl) (fun _ => rfl) rfl ?_
    refine r_iconst (v := (nI 0)) dX9_back_23 (by decide) ?_
    refine r_istore_n (ls' := [_, _]) dX9_back_24 (by decide) rfl ?_
    refine r_pc 25 rfl ?_
    exact L1 (kn + 1) 0 _ (by omega) (fun j h => absurd h (by omega))
  · exact absurd (nI_pos' (show kn < 2 ^ 31 by omega)) h4
theorem d_would_f {x : Nat} (hR : RI L b n m cd Q ik kn kc kQ fn fr fz tal R w) (h : (tx b L).1 = some x) (hx : x < 2 ^ 31) : SemP mX9_would 10 0 0 [.ref 100] w (Top (-100 - nI x) (RI (0) b n m cd Q ik kn kc kQ fn fr fz tal R)) := by
  obtain ⟨rc, rf, ro, rt, ru, rm, rg, rp, rq, ry, rl, wt, rk, rx, rz, rd, rT, rR, rN, rA, rF, rC, rO, rB, rY, rP, rb, rfl, ⟨s1, s2, s3, s4, s5, s6⟩, hB, hrx, hrw, hrz, hrk, hrl, hrd⟩ := hR
  have hm : m ≤ 200 := s4.1
  have hkn : kn ≤ 200 := s5.1
  have hL : L ≤ 120 := s1
  have s3 : n ≤ m := s3
  have hn : n ≤ 200 := Nat.le_trans s3 s4.1
  have s6 : fn ≤ 8 := s6
  have hrx : ∀ j, j < m → rx j = nI (cd j) := hrx
  have hrw : ∀ j, j ≤ m → wt j = bt (Q j) := hrw
  have hrl : ∀ j, j < fn → rl j = fr j := hrl
  have hrd : ∀ j, j < 12 → rd j = tal j := hrd
  have hQn : wt n = bt (Q n) := hrw n s3
  have hVn : Vq (Q n) := s4.2.2.1 n s3
  refine semP_of (by decide) (Nat.le_of_ble_eq_true rfl) rfl ?_
  have hBy : By rT L b := ⟨s1, fun j hj => ⟨hB j hj, s2 j hj⟩⟩
  refine r_aload_n dX9_would_0 rfl ?_
  refine r_cV dX9_would_1 (m_isText hBy) lX9_258 rfl rfl rfl (by decide) ⟨Nat.le_refl _, Nat.le_refl _⟩ (Nat.le_of_ble_eq_true rfl) ?_
  rw [show (rtx b L 121 0 []).1 = some x from h]
  refine r_if_ne 15 dX9_would_4 (by decide) (fun h4 => ?_) (fun h4 => ?_)
  · exact absurd rfl h4
  · refine r_pc 7 rfl ?_
    refine r_bipush (v := (-100)) dX9_would_7 (by decide) ?_
    refine r_aload_n dX9_would_9 rfl ?_
    refine r_get dX9_would_10 fX9_222 rfl rfl ?_
    refine r_isub dX9_would_13 ?_
    exact r_iretP dX9_would_14 rfl ⟨rfl, _, _, _, _, _, _, _, _, _, _, _, _, _, _, _, _, _, _, _, _, _, _, _, _, _, _, _, rfl, ⟨⟨Nat.zero_le _, (fun j h => absurd h (Nat.not_lt_zero _)), s3, s4, s5, s6⟩, (fun j h => absurd h (Nat.not_lt_zero _)), hrx, hrw, hrz, hrk, hrl, hrd⟩⟩
theorem d_would_b (hR : RI L b n m cd Q ik kn kc kQ fn fr fz tal R w) (h : (tx b L).1 = none) (h1 : ¬ (tx b L).2.length = 1) : SemP mX9_would 10 0 0 [.ref 100] w (Top (-1) (RI (0) b n m cd Q ik kn kc kQ fn fr fz tal R)) := by
  obtain ⟨rc, rf, ro, rt, ru, rm, rg, rp, rq, ry, rl, wt, rk, rx, rz, rd, rT, rR, rN, rA, rF, rC, rO, rB, rY, rP, rb, rfl, ⟨s1, s2, s3, s4, s5, s6⟩, hB, hrx, hrw, hrz, hrk, hrl, hrd⟩ := hR
  have hm : m ≤ 200 := s4.1
  have hkn : kn ≤ 200 := s5.1
  have hL : L ≤ 120 := s1
  have s3 : n ≤ m := s3
  have hn : n ≤ 200 := Nat.le_trans s3 s4.1
  have s6 : fn ≤ 8 := s6
  have hrx : ∀ j, j < m → rx j = nI (cd j) := hrx
  have hrw : ∀ j, j ≤ m → wt j = bt (Q j) := hrw
  have hrl : ∀ j, j < fn → rl j = fr j := hrl
  have hrd : ∀ j, j < 12 → rd j = tal j := hrd
  have hQn : wt n = bt (Q n) := hrw n s3
  have hVn : Vq (Q n) := s4.2.2.1 n s3
  refine semP_of (by decide) (Nat.le_of_ble_eq_true rfl) rfl ?_
  have hBy : By rT L b := ⟨s1, fun j hj => ⟨hB j hj, s2 j hj⟩⟩
  obtain ⟨t1, t2, t3⟩ := tx_ok s1 h
  have hr : (rtx b L 121 0 []).1 = none := h
  have t1 : (rtx b L 121 0 []).2.length ≤ 120 := t1
  have h1 : ¬ (rtx b L 121 0 []).2.length = 1 := h1
  refine r_aload_n dX9_would_0 rfl ?_
  refine r_cV dX9_would_1 (m_isText hBy) lX9_258 rfl rfl rfl (by decide) ⟨Nat.le_refl _, Nat.le_refl _⟩ (Nat.le_of_ble_eq_true rfl) ?_
  rw [hr]
  refine r_if_ne 15 dX9_would_4 (by decide) (fun h4 => ?_) (fun h4 => ?_)
  · refine r_pc 15 rfl ?_
    refine r_aload_n dX9_would_15 rfl ?_
    refine r_get dX9_would_16 fX9_239 rfl rfl ?_
    refine r_iconst (v := (nI 1)) dX9_would_19 (by decide) ?_
    refine r_icmp_eqN 25 dX9_would_20 (by decide) (by omega) (by omega) (fun h20 => ?_) (fun h20 => ?_)
    · exact absurd h20 h1
    · refine r_pc 23 rfl ?_
      refine r_iconst (v := (-1)) dX9_would_23 (by decide) ?_
      exact r_iretP dX9_would_24 rfl ⟨rfl, _, _, _, _, _, _, _, _, _, _, _, _, _, _, _, _, _, _, _, _, _, _, _, _, _, _, _, rfl, ⟨⟨Nat.zero_le _, (fun j h => absurd h (Nat.not_lt_zero _)), s3, s4, s5, s6⟩, (fun j h => absurd h (Nat.not_lt_zero _)), hrx, hrw, hrz, hrk, hrl, hrd⟩⟩
  · exact absurd h4 (by decide)
theorem d_would_1 (hR : RI L b n m cd Q ik kn kc kQ fn fr fz tal R w) (h : (tx b L).1 = none) (h1 : (tx b L).2.length = 1) (hp : POK (sqc (Q n)) (sqf (Q n)) ((tx b L).2.getD 0 0 / 100) ((tx b L).2.getD 0 0 % 100) = true) : SemP mX9_would 10 0 0 [.ref 100] w (Top (nI (PN (sqc (Q n)) (sqf (Q n)) ((tx b L).2.getD 0 0 / 100) ((tx b L).2.getD 0 0 % 100))) (RI (0) b n m cd Q ik kn kc kQ fn fr fz tal R)) := by
  obtain ⟨rc, rf, ro, rt, ru, rm, rg, rp, rq, ry, rl, wt, rk, rx, rz, rd, rT, rR, rN, rA, rF, rC, rO, rB, rY, rP, rb, rfl, ⟨s1, s2, s3, s4, s5, s6⟩, hB, hrx, hrw, hrz, hrk, hrl, hrd⟩ := hR
  have hm : m ≤ 200 := s4.1
  have hkn : kn ≤ 200 := s5.1
  have hL : L ≤ 120 := s1
  have s3 : n ≤ m := s3
  have hn : n ≤ 200 := Nat.le_trans s3 s4.1
  have s6 : fn ≤ 8 := s6
  have hrx : ∀ j, j < m → rx j = nI (cd j) := hrx
  have hrw : ∀ j, j ≤ m → wt j = bt (Q j) := hrw
  have hrl : ∀ j, j < fn → rl j = fr j := hrl
  have hrd : ∀ j, j < 12 → rd j = tal j := hrd
  have hQn : wt n = bt (Q n) := hrw n s3
  have hVn : Vq (Q n) := s4.2.2.1 n s3
  refine semP_of (by decide) (Nat.le_of_ble_eq_true rfl) rfl ?_
  have hBy : By rT L b := ⟨s1, fun j hj => ⟨hB j hj, s2 j hj⟩⟩
  obtain ⟨t1, t2, t3⟩ := tx_ok s1 h
  have hr : (rtx b L 121 0 []).1 = none := h
  generalize hlt : (tx b L).2 = l at t1 t2 t3 h1 hp ⊢
  have hl2 : (rtx b L 121 0 []).2 = l := hlt
  have hcx := t3 _ (getD_mem (show 0 < l.length by omega))
  have e0 : putL rR l 0 = nI (l.getD 0 0) := putL_at rR (by omega)
  have hxl : l.getD 0 0 < 2 ^ 31 := by omega
  refine r_aload_n dX9_would_0 rfl ?_
  refine r_cV dX9_would_1 (m_isText hBy) lX9_258 rfl rfl rfl (by decide) ⟨Nat.le_refl _, Nat.le_refl _⟩ (Nat.le_of_ble_eq_true rfl) ?_
  rw [hr, hl2]
  refine r_if_ne 15 dX9_would_4 (by decide) (fun h4 => ?_) (fun h4 => ?_)
  · refine r_pc 15 rfl ?_
    refine r_aload_n dX9_would_15 rfl ?_
    refine r_get dX9_would_16 fX9_239 rfl rfl ?_
    refine r_iconst (v := (nI 1)) dX9_would_19 (by decide) ?_
    refine r_icmp_eqN 25 dX9_would_20 (by decide) (by omega) (by omega) (fun h20 => ?_) (fun h20 => ?_)
    · refine r_pc 25 rfl ?_
      refine r_aload_n dX9_would_25 rfl ?_
      refine r_cVv dX9_would_26 (m_look hn hQn) lX9_255 rfl rfl rfl (by decide) ⟨Nat.le_refl _, Nat.le_refl _⟩ (Nat.le_of_ble_eq_true rfl) ?_
      refine r_aload_n dX9_would_29 rfl ?_
      refine r_aload_n dX9_would_30 rfl ?_
      refine r_get dX9_would_31 fX9_112 rfl rfl ?_
      refine r_pc 34 rfl ?_
      refine r_iconst (v := (nI 0)) dX9_would_34 (by decide) ?_
      refine r_iald dX9_would_35 rfl rfl (by decide) (by decide) ?_
      refine r_topi _ e0 ?_
      refine r_bipush (v := (nI 100)) dX9_would_36 (by decide) ?_
      refine r_idivN dX9_would_38 (by omega) (by decide) (by decide) ?_
      refine r_aload_n dX9_would_39 rfl ?_
      refine r_pc 40 rfl ?_
      refine r_get dX9_would_40 fX9_112 rfl rfl ?_
      refine r_iconst (v := (nI 0)) dX9_would_43 (by decide) ?_
      refine r_iald dX9_would_44 rfl rfl (by decide) (by decide) ?_
      refine r_topi _ e0 ?_
      refine r_bipush (v := (nI 100)) dX9_would_45 (by decide) ?_
      refine r_iremN dX9_would_47 (by omega) (by decide) (by decide) ?_
      refine r_pc 48 rfl ?_
      refine r_cVP dX9_would_48 (m_tries hcx.1 hcx.2 (Sq_bt _) (Sd_bt _) hVn.1) lX9_268 rfl rfl rfl (by decide) ⟨Nat.le_refl _, Nat.le_refl _⟩ (Nat.le_of_ble_eq_true rfl) (fun r w2 hpz => ?_)
      obtain ⟨rfl, rt2, ru2, rm2, rg2, rp2, rfl, hk⟩ := hpz
      obtain ⟨-, -, rfl⟩ := hk hp
      rw [hp]
      refine r_pc 51 rfl ?_
      refine r_if_eq 61 dX9_would_51 (by decide) (fun h51 => ?_) (fun h51 => ?_)
      · exact absurd h51 (by decide)
      · refine r_pc 54 rfl ?_
        refine r_aload_n dX9_would_54 rfl ?_
        refine r_get dX9_would_55 fX9_183 rfl rfl ?_
        refine r_goto 63 dX9_would_58 (by decide) ?_
        exact r_iretP dX9_would_63 rfl ⟨rfl, _, _, _, _, _, _, _, _, _, _, _, _, _, _, _, _, _, _, _, _, _, _, _, _, _, _, _, rfl, ⟨⟨Nat.zero_le _, (fun j h => absurd h (Nat.not_lt_zero _)), s3, s4, s5, s6⟩, (fun j h => absurd h (Nat.not_lt_zero _)), hrx, hrw, hrz, hrk, hrl, hrd⟩⟩
    · exact absurd h1 h20
  · exact absurd h4 (by decide)
theorem d_would_0 (hR : RI L b n m cd Q ik kn kc kQ fn fr fz tal R w) (h : (tx b L).1 = none) (h1 : (tx b L).2.length = 1) (hp : POK (sqc (Q n)) (sqf (Q n)) ((tx b L).2.getD 0 0 / 100) ((tx b L).2.getD 0 0 % 100) = false) : SemP mX9_would 10 0 0 [.ref 100] w (Top (-2) (RI (0) b n m cd Q ik kn kc kQ fn fr fz tal R)) := by
  obtain ⟨rc, rf, ro, rt, ru, rm, rg, rp, rq, ry, rl, wt, rk, rx, rz, rd, rT, rR, rN, rA, rF, rC, rO, rB, rY, rP, rb, rfl, ⟨s1, s2, s3, s4, s5, s6⟩, hB, hrx, hrw, hrz, hrk, hrl, hrd⟩ := hR
  have hm : m ≤ 200 := s4.1
  have hkn : kn ≤ 200 := s5.1
  have hL : L ≤ 120 := s1
  have s3 : n ≤ m := s3
  have hn : n ≤ 200 := Nat.le_trans s3 s4.1
  have s6 : fn ≤ 8 := s6
  have hrx : ∀ j, j < m → rx j = nI (cd j) := hrx
  have hrw : ∀ j, j ≤ m → wt j = bt (Q j) := hrw
  have hrl : ∀ j, j < fn → rl j = fr j := hrl
  have hrd : ∀ j, j < 12 → rd j = tal j := hrd
  have hQn : wt n = bt (Q n) := hrw n s3
  have hVn : Vq (Q n) := s4.2.2.1 n s3
  refine semP_of (by decide) (Nat.le_of_ble_eq_true rfl) rfl ?_
  have hBy : By rT L b := ⟨s1, fun j hj => ⟨hB j hj, s2 j hj⟩⟩
  obtain ⟨t1, t2, t3⟩ := tx_ok s1 h
  have hr : (rtx b L 121 0 []).1 = none := h
  generalize hlt : (tx b L).2 = l at t1 t2 t3 h1 hp ⊢
  have hl2 : (rtx b L 121 0 []).2 = l := hlt
  have hcx := t3 _ (getD_mem (show 0 < l.length by omega))
  have e0 : putL rR l 0 = nI (l.getD 0 0) := putL_at rR (by omega)
  have hxl : l.getD 0 0 < 2 ^ 31 := by omega
  refine r_aload_n dX9_would_0 rfl ?_
  refine r_cV dX9_would_1 (m_isText hBy) lX9_258 rfl rfl rfl (by decide) ⟨Nat.le_refl _, Nat.le_refl _⟩ (Nat.le_of_ble_eq_true rfl) ?_
  rw [hr, hl2]
  refine r_if_ne 15 dX9_would_4 (by decide) (fun h4 => ?_) (fun h4 => ?_)
  · refine r_pc 15 rfl ?_
    refine r_aload_n dX9_would_15 rfl ?_
    refine r_get dX9_would_16 fX9_239 rfl rfl ?_
    refine r_iconst (v := (nI 1)) dX9_would_19 (by decide) ?_
    refine r_icmp_eqN 25 dX9_would_20 (by decide) (by omega) (by omega) (fun h20 => ?_) (fun h20 => ?_)
    · refine r_pc 25 rfl ?_
      refine r_aload_n dX9_would_25 rfl ?_
      refine r_cVv dX9_would_26 (m_look hn hQn) lX9_255 rfl rfl rfl (by decide) ⟨Nat.le_refl _, Nat.le_refl _⟩ (Nat.le_of_ble_eq_true rfl) ?_
      refine r_aload_n dX9_would_29 rfl ?_
      refine r_aload_n dX9_would_30 rfl ?_
      refine r_get dX9_would_31 fX9_112 rfl rfl ?_
      refine r_pc 34 rfl ?_
      refine r_iconst (v := (nI 0)) dX9_would_34 (by decide) ?_
      refine r_iald dX9_would_35 rfl rfl (by decide) (by decide) ?_
      refine r_topi _ e0 ?_
      refine r_bipush (v := (nI 100)) dX9_would_36 (by decide) ?_
      refine r_idivN dX9_would_38 (by omega) (by decide) (by decide) ?_
      refine r_aload_n dX9_would_39 rfl ?_
      refine r_pc 40 rfl ?_
      refine r_get dX9_would_40 fX9_112 rfl rfl ?_
      refine r_iconst (v := (nI 0)) dX9_would_43 (by decide) ?_
      refine r_iald dX9_would_44 rfl rfl (by decide) (by decide) ?_
      refine r_topi _ e0 ?_
      refine r_bipush (v := (nI 100)) dX9_would_45 (by decide) ?_
      refine r_iremN dX9_would_47 (by omega) (by decide) (by decide) ?_
      refine r_pc 48 rfl ?_
      refine r_cVP dX9_would_48 (m_tries hcx.1 hcx.2 (Sq_bt _) (Sd_bt _) hVn.1) lX9_268 rfl rfl rfl (by decide) ⟨Nat.le_refl _, Nat.le_refl _⟩ (Nat.le_of_ble_eq_true rfl) (fun r w2 hpz => ?_)
      obtain ⟨rfl, rt2, ru2, rm2, rg2, rp2, rfl, hk⟩ := hpz
      rw [hp]
      refine r_pc 51 rfl ?_
      refine r_if_eq 61 dX9_would_51 (by decide) (fun h51 => ?_) (fun h51 => ?_)
      · refine r_pc 61 rfl ?_
        refine r_bipush (v := (-2)) dX9_would_61 (by decide) ?_
        exact r_iretP dX9_would_63 rfl ⟨rfl, _, _, _, _, _, _, _, _, _, _, _, _, _, _, _, _, _, _, _, _, _, _, _, _, _, _, _, rfl, ⟨⟨Nat.zero_le _, (fun j h => absurd h (Nat.not_lt_zero _)), s3, s4, s5, s6⟩, (fun j h => absurd h (Nat.not_lt_zero _)), hrx, hrw, hrz, hrk, hrl, hrd⟩⟩
      · exact absurd rfl h51
    · exact absurd h1 h20
  · exact absurd h4 (by decide)
end D2
