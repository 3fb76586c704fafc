/-! ===== falls ===== -/
theorem nI_m {x : Nat} (h : x < 2 ^ 31) : ¬ (-1 : Int32) = nI x := fun q => nI_m1 h q.symm
theorem stI_nI {o : Option Nat} {x : Nat} (ho : ∀ y, o = some y → y < 2 ^ 31) (hx : x < 2 ^ 31) : stI o = nI x ↔ o = some x := by
  cases o with
  | none => exact ⟨fun q => absurd q (nI_m hx), fun q => by cases q⟩
  | some y => exact ⟨fun q => by rw [(nI_eq (ho y rfl) hx).mp q], fun q => by cases q; rfl⟩
def goesB (c : Nat → Nat) (t : Nat → Option Nat) (d : Nat) : Bool := !decide (t d = some (c d))
def blk (c : Nat → Nat) (t : Nat → Option Nat) (d x : Nat) : Bool := match who c 8 x with
  | none => false
  | some e => !goesB c t e || decide (t e = some (c d))
def crw (t : Nat → Option Nat) (d x : Nat) : Nat → Bool
  | 0 => false
  | n + 1 => crw t d x n || (!decide (n = d) && decide (t n = some x))
def whyf (c : Nat → Nat) (t : Nat → Option Nat) (d : Nat) : Nat := match t d with
  | none => 1
  | some x => if blk c t d x = true then 2 else if crw t d x 8 = true then 3 else 0
def wy (c : Nat → Nat) (t : Nat → Option Nat) (d : Nat) : Nat := if goesB c t d = true then whyf c t d else 0
def smf (c : Nat → Nat) (t : Nat → Option Nat) : Nat → Bool
  | 0 => false
  | n + 1 => smf c t n || !decide (wy c t n = 0)
theorem crw_ge {t : Nat → Option Nat} {d x i : Nat} (h : crw t d x i = true) : ∀ m, crw t d x (i + m) = true
  | 0 => h
  | m + 1 => by
    show (crw t d x (i + m) || _) = true
    rw [crw_ge h m]
    rfl
theorem whyf_lt (c : Nat → Nat) (t : Nat → Option Nat) (d : Nat) : whyf c t d < 4 := by
  unfold whyf
  split
  · decide
  · split
    · decide
    · split <;> decide
theorem wy_lt (c : Nat → Nat) (t : Nat → Option Nat) (d : Nat) : wy c t d < 4 := by
  unfold wy
  split
  · exact whyf_lt c t d
  · decide
theorem bI_or (a b : Bool) : bI a ||| bI b = bI (a || b) := by cases a <;> cases b <;> decide
def Tl (t : Nat → Option Nat) : Prop := ∀ j, j < 8 → ∀ x, t j = some x → x < 16
section F7
variable {x0 x1 x2 x3 : AE} {fc ff fs ft fu fw : Nat → Int32} {fy fd : Int32} {po : List AE}
variable {R : List AE} {c f : Nat → Nat} {t : Nat → Option Nat}
theorem s_goesB {d : Nat} (hd : d < 8) (hS : Sq fc ff c f) (ht : Tl t) (hft : ∀ j, j < 8 → ft j = stI (t j)) : Sem mX2_goes 1 0 0 [.ref 4, .int (nI d)] (cF x0 x1 x2 x3 fc ff fs ft fu fw fy fd po, R) (some (.int (bI (goesB c t d)))) (cF x0 x1 x2 x3 fc ff fs ft fu fw fy fd po, R) := by
  have h := s_goes (x0 := x0) (x1 := x1) (x2 := x2) (x3 := x3) (fc := fc) (ff := ff) (fs := fs) (ft := ft) (fu := fu) (fw := fw) (fy := fy) (fd := fd) (po := po) (R := R) hd
  obtain ⟨e1, b1, -, -⟩ := hS d hd
  have e : decide (¬ ft d = fc d) = goesB c t d := by
    rw [hft d hd, e1]
    unfold goesB
    by_cases q : t d = some (c d)
    · simp [q, stI]
    · have : ¬ stI (t d) = nI (c d) := fun z => q ((stI_nI (fun y hy => by have := ht d hd y hy; omega) (by omega)).mp z)
      simp [q, this]
  rw [e] at h
  exact h
theorem s_whyFalls {d : Nat} (hd : d < 8) (hS : Sq fc ff c f) (hs : Sd fs c) (ht : Tl t) (hft : ∀ j, j < 8 → ft j = stI (t j)) : Sem mX2_whyFalls 2 0 0 [.ref 4, .int (nI d)] (cF x0 x1 x2 x3 fc ff fs ft fu fw fy fd po, R) (some (.int (nI (whyf c t d)))) (cF x0 x1 x2 x3 fc ff fs ft fu fw fy fd po, R) := by
  refine sem_of (by decide) (Nat.le_of_ble_eq_true rfl) rfl ?_
  obtain ⟨e1, b1, -, -⟩ := hS d hd
  have e2 := hft d hd
  unfold whyf
  cases hx : t d with
  | none =>
    rw [hx] at e2
    refine r_aload_n dX2_whyFalls_0 rfl ?_
    refine r_get dX2_whyFalls_1 fX2_21 rfl rfl ?_
    refine r_iload_n dX2_whyFalls_4 rfl ?_
    refine r_iald dX2_whyFalls_5 rfl rfl hd (by decide) ?_
    refine r_topi _ e2 ?_
    refine r_istore_n (ls' := [_, _, _, _, _]) dX2_whyFalls_6 (by decide) rfl ?_
    refine r_pc 7 rfl ?_
    refine r_iload_n dX2_whyFalls_7 rfl ?_
    refine r_iconst (v := (-1)) dX2_whyFalls_8 (by decide) ?_
    refine r_icmp_ne 14 dX2_whyFalls_9 (by decide) (fun h9 => ?_) (fun h9 => ?_)
    · exact absurd rfl h9
    · refine r_pc 12 rfl ?_
      refine r_iconst (v := (nI 1)) dX2_whyFalls_12 (by decide) ?_
      exact r_iret dX2_whyFalls_13 rfl rfl rfl
  | some x =>
    rw [hx] at e2
    have hx16 := ht d hd x hx
    have L : ∀ (m i : Nat) (y3 : Int32), i + m = 8 → crw t d x i = false → Rn mX2_whyFalls 2 0 0 (cF x0 x1 x2 x3 fc ff fs ft fu fw fy fd po, R) (some (.int (nI (if crw t d x 8 = true then 3 else 0)))) (cF x0 x1 x2 x3 fc ff fs ft fu fw fy fd po, R) 0 0 54 [some (.ref 4), some (.int (nI d)), some (.int (nI x)), some (.int y3), some (.int (nI i))] [] (cF x0 x1 x2 x3 fc ff fs ft fu fw fy fd po, R) := by
      intro m
      induction m with
      | zero =>
        intro i y3 hi h1
        have : i = 8 := by omega
        subst this
        refine r_iload dX2_whyFalls_54 rfl ?_
        refine r_bipush (v := (nI 8)) dX2_whyFalls_56 (by decide) ?_
        refine r_icmp_geN 86 dX2_whyFalls_58 (by decide) (by omega) (by omega) (fun h58 => ?_) (fun h58 => ?_)
        · refine r_pc 86 rfl ?_
          refine r_iconst (v := (nI 0)) dX2_whyFalls_86 (by decide) ?_
          exact r_iret dX2_whyFalls_87 rfl (by rw [h1]; rfl) rfl
        · exact absurd h58 (by omega)
      | succ m ih =>
        intro i y3 hi h1
        have hi8 : i < 8 := by omega
        have e3 := hft i hi8
        refine r_iload dX2_whyFalls_54 rfl ?_
        refine r_bipush (v := (nI 8)) dX2_whyFalls_56 (by decide) ?_
        refine r_icmp_geN 86 dX2_whyFalls_58 (by decide) (by omega) (by omega) (fun h58 => ?_) (fun h58 => ?_)
        · exact absurd h58 (by omega)
        · refine r_pc 61 rfl ?_
          refine r_iload dX2_whyFalls_61 rfl ?_
          refine r_iload_n dX2_whyFalls_63 rfl ?_
          refine r_icmp_eqN 80 dX2_whyFalls_64 (by decide) (by omega) (by omega) (fun h64 => ?_) (fun h64 => ?_)
          · have hc : crw t d x (i + 1) = false := by (show (crw t d x i || _) = false; rw [h1]; simp [h64])
            refine r_pc 80 rfl ?_
            refine r_inc1 (ls' := [_, _, _, _, _]) dX2_whyFalls_80 (by decide) rfl rfl ?_
            refine r_goto 54 dX2_whyFalls_83 (by decide) ?_
            refine r_pc 54 rfl ?_
            exact ih (i + 1) _ (by omega) hc
          · refine r_pc 67 rfl ?_
            refine r_aload_n dX2_whyFalls_67 rfl ?_
            refine r_get dX2_whyFalls_68 fX2_21 rfl rfl ?_
            refine r_iload dX2_whyFalls_71 rfl ?_
            refine r_iald dX2_whyFalls_73 rfl rfl hi8 (by decide) ?_
            refine r_topi _ e3 ?_
            refine r_iload_n dX2_whyFalls_74 rfl ?_
            refine r_pc 75 rfl ?_
            refine r_icmp_ne 80 dX2_whyFalls_75 (by decide) (fun h75 => ?_) (fun h75 => ?_)
            · have hc : crw t d x (i + 1) = false := by (show (crw t d x i || _) = false; rw [h1]; simp; exact fun _ q => h75 (by rw [q]; rfl))
              refine r_pc 80 rfl ?_
              refine r_inc1 (ls' := [_, _, _, _, _]) dX2_whyFalls_80 (by decide) rfl rfl ?_
              refine r_goto 54 dX2_whyFalls_83 (by decide) ?_
              refine r_pc 54 rfl ?_
              exact ih (i + 1) _ (by omega) hc
            · have hc : crw t d x (i + 1) = true := by (show (crw t d x i || _) = true; rw [h1]; simp; exact ⟨h64, (stI_nI (fun y hy => by have := ht i hi8 y hy; omega) (by omega)).mp h75⟩)
              have hc8 := crw_ge hc m
              rw [show i + 1 + m = 8 by omega] at hc8
              refine r_pc 78 rfl ?_
              refine r_iconst (v := (nI 3)) dX2_whyFalls_78 (by decide) ?_
              exact r_iret dX2_whyFalls_79 rfl (by rw [hc8]; rfl) rfl
    dsimp only
    unfold blk
    have e3 := hs x hx16
    cases hw : who c 8 x with
    | none =>
      rw [hw] at e3
      simp only [Bool.false_eq_true, if_false]
      refine r_aload_n dX2_whyFalls_0 rfl ?_
      refine r_get dX2_whyFalls_1 fX2_21 rfl rfl ?_
      refine r_iload_n dX2_whyFalls_4 rfl ?_
      refine r_iald dX2_whyFalls_5 rfl rfl hd (by decide) ?_
      refine r_topi _ e2 ?_
      refine r_istore_n (ls' := [_, _, _, _, _]) dX2_whyFalls_6 (by decide) rfl ?_
      refine r_pc 7 rfl ?_
      refine r_iload_n dX2_whyFalls_7 rfl ?_
      refine r_iconst (v := (-1)) dX2_whyFalls_8 (by decide) ?_
      refine r_icmp_ne 14 dX2_whyFalls_9 (by decide) (fun h9 => ?_) (fun h9 => ?_)
      · refine r_pc 14 rfl ?_
        refine r_aload_n dX2_whyFalls_14 rfl ?_
        refine r_get dX2_whyFalls_15 fX2_18 rfl rfl ?_
        refine r_iload_n dX2_whyFalls_18 rfl ?_
        refine r_iald dX2_whyFalls_19 rfl rfl hx16 (by decide) ?_
        refine r_topi _ e3 ?_
        refine r_istore_n (ls' := [_, _, _, _, _]) dX2_whyFalls_20 (by decide) rfl ?_
        refine r_pc 21 rfl ?_
        refine r_iload_n dX2_whyFalls_21 rfl ?_
        refine r_iconst (v := (-1)) dX2_whyFalls_22 (by decide) ?_
        refine r_icmp_eq 51 dX2_whyFalls_23 (by decide) (fun h23 => ?_) (fun h23 => ?_)
        · refine r_pc 51 rfl ?_
          refine r_iconst (v := (nI 0)) dX2_whyFalls_51 (by decide) ?_
          refine r_istore (ls' := [_, _, _, _, _]) dX2_whyFalls_52 (by decide) rfl ?_
          refine r_pc 54 rfl ?_
          exact L 8 0 _ (by omega) rfl
        · exact absurd rfl h23
      · exact absurd h9 (nI_m1 (by omega))
    | some e =>
      rw [hw] at e3
      have he := who_lt hw
      dsimp only
      rcases Bool.eq_false_or_eq_true (goesB c t e) with hg | hg
      rotate_left
      · simp only [hg, Bool.not_false, Bool.true_or, if_true]
        refine r_aload_n dX2_whyFalls_0 rfl ?_
        refine r_get dX2_whyFalls_1 fX2_21 rfl rfl ?_
        refine r_iload_n dX2_whyFalls_4 rfl ?_
        refine r_iald dX2_whyFalls_5 rfl rfl hd (by decide) ?_
        refine r_topi _ e2 ?_
        refine r_istore_n (ls' := [_, _, _, _, _]) dX2_whyFalls_6 (by decide) rfl ?_
        refine r_pc 7 rfl ?_
        refine r_iload_n dX2_whyFalls_7 rfl ?_
        refine r_iconst (v := (-1)) dX2_whyFalls_8 (by decide) ?_
        refine r_icmp_ne 14 dX2_whyFalls_9 (by decide) (fun h9 => ?_) (fun h9 => ?_)
        · refine r_pc 14 rfl ?_
          refine r_aload_n dX2_whyFalls_14 rfl ?_
          refine r_get dX2_whyFalls_15 fX2_18 rfl rfl ?_
          refine r_iload_n dX2_whyFalls_18 rfl ?_
          refine r_iald dX2_whyFalls_19 rfl rfl hx16 (by decide) ?_
          refine r_topi _ e3 ?_
          refine r_istore_n (ls' := [_, _, _, _, _]) dX2_whyFalls_20 (by decide) rfl ?_
          refine r_pc 21 rfl ?_
          refine r_iload_n dX2_whyFalls_21 rfl ?_
          refine r_iconst (v := (-1)) dX2_whyFalls_22 (by decide) ?_
          refine r_icmp_eq 51 dX2_whyFalls_23 (by decide) (fun h23 => ?_) (fun h23 => ?_)
          · exact absurd h23 (nI_m1 (by omega))
          · refine r_pc 26 rfl ?_
            refine r_aload_n dX2_whyFalls_26 rfl ?_
            refine r_iload_n dX2_whyFalls_27 rfl ?_
            refine r_cV dX2_whyFalls_28 (s_goesB he hS ht hft) lX2_106 rfl rfl rfl (by decide) ⟨Nat.le_refl _, Nat.le_refl _⟩ (Nat.le_of_ble_eq_true rfl) ?_
            rw [hg]
            refine r_if_eq 49 dX2_whyFalls_31 (by decide) (fun h31 => ?_) (fun h31 => ?_)
            · refine r_pc 49 rfl ?_
              refine r_iconst (v := (nI 2)) dX2_whyFalls_49 (by decide) ?_
              exact r_iret dX2_whyFalls_50 rfl rfl rfl
            · exact absurd rfl h31
        · exact absurd h9 (nI_m1 (by omega))
      · simp only [hg, Bool.not_true, Bool.false_or, decide_eq_true_eq]
        refine r_aload_n dX2_whyFalls_0 rfl ?_
        refine r_get dX2_whyFalls_1 fX2_21 rfl rfl ?_
        refine r_iload_n dX2_whyFalls_4 rfl ?_
        refine r_iald dX2_whyFalls_5 rfl rfl hd (by decide) ?_
        refine r_topi _ e2 ?_
        refine r_istore_n (ls' := [_, _, _, _, _]) dX2_whyFalls_6 (by decide) rfl ?_
        refine r_pc 7 rfl ?_
        refine r_iload_n dX2_whyFalls_7 rfl ?_
        refine r_iconst (v := (-1)) dX2_whyFalls_8 (by decide) ?_
        refine r_icmp_ne 14 dX2_whyFalls_9 (by decide) (fun h9 => ?_) (fun h9 => ?_)
        · refine r_pc 14 rfl ?_
          refine r_aload_n dX2_whyFalls_14 rfl ?_
          refine r_get dX2_whyFalls_15 fX2_18 rfl rfl ?_
          refine r_iload_n dX2_whyFalls_18 rfl ?_
          refine r_iald dX2_whyFalls_19 rfl rfl hx16 (by decide) ?_
          refine r_topi _ e3 ?_
          refine r_istore_n (ls' := [_, _, _, _, _]) dX2_whyFalls_20 (by decide) rfl ?_
          refine r_pc 21 rfl ?_
          refine r_iload_n dX2_whyFalls_21 rfl ?_
          refine r_iconst (v := (-1)) dX2_whyFalls_22 (by decide) ?_
          refine r_icmp_eq 51 dX2_whyFalls_23 (by decide) (fun h23 => ?_) (fun h23 => ?_)
          · exact absurd h23 (nI_m1 (by omega))
          · refine r_pc 26 rfl ?_
            refine r_aload_n dX2_whyFalls_26 rfl ?_
            refine r_iload_n dX2_whyFalls_27 rfl ?_
            refine r_cV dX2_whyFalls_28 (s_goesB he hS ht hft) lX2_106 rfl rfl rfl (by decide) ⟨Nat.le_refl _, Nat.le_refl _⟩ (Nat.le_of_ble_eq_true rfl) ?_
            rw [hg]
            refine r_if_eq 49 dX2_whyFalls_31 (by decide) (fun h31 => ?_) (fun h31 => ?_)
            · exact absurd h31 (by decide)
            · refine r_pc 34 rfl ?_
              refine r_aload_n dX2_whyFalls_34 rfl ?_
              refine r_get dX2_whyFalls_35 fX2_21 rfl rfl ?_
              refine r_iload_n dX2_whyFalls_38 rfl ?_
              refine r_iald dX2_whyFalls_39 rfl rfl he (by decide) ?_
              refine r_topi _ (hft e he) ?_
              refine r_aload_n dX2_whyFalls_40 rfl ?_
              refine r_pc 41 rfl ?_
              refine r_get dX2_whyFalls_41 fX2_9 rfl rfl ?_
              refine r_iload_n dX2_whyFalls_44 rfl ?_
              refine r_iald dX2_whyFalls_45 rfl rfl hd (by decide) ?_
              refine r_topi _ e1 ?_
              refine r_icmp_ne 51 dX2_whyFalls_46 (by decide) (fun h46 => ?_) (fun h46 => ?_)
              · rw [if_neg (fun q => h46 (by rw [q]; rfl))]
                refine r_pc 51 rfl ?_
                refine r_iconst (v := (nI 0)) dX2_whyFalls_51 (by decide) ?_
                refine r_istore (ls' := [_, _, _, _, _]) dX2_whyFalls_52 (by decide) rfl ?_
                refine r_pc 54 rfl ?_
                exact L 8 0 _ (by omega) rfl
              · rw [if_pos ((stI_nI (fun y hy => by have := ht e he y hy; omega) (by omega)).mp h46)]
                refine r_pc 49 rfl ?_
                refine r_iconst (v := (nI 2)) dX2_whyFalls_49 (by decide) ?_
                exact r_iret dX2_whyFalls_50 rfl rfl rfl
        · exact absurd h9 (nI_m1 (by omega))
theorem s_someFall (hS : Sq fc ff c f) (hs : Sd fs c) (ht : Tl t) (hft : ∀ j, j < 8 → ft j = stI (t j)) : Sem mX2_someFall 3 0 0 [.ref 4] (cF x0 x1 x2 x3 fc ff fs ft fu fw fy fd po, R) (some (.int (bI (smf c t 8)))) (cF x0 x1 x2 x3 fc ff fs ft fu (fun j => nI (wy c t j)) fy fd po, R) := by
  refine sem_of (by decide) (Nat.le_of_ble_eq_true rfl) rfl ?_
  generalize hw0 : (cF x0 x1 x2 x3 fc ff fs ft fu fw fy fd po, R) = w0
  have L : ∀ (m i : Nat) (fw : Nat → Int32), i + m = 8 → (∀ j, j < i → fw j = nI (wy c t j)) → Rn mX2_someFall 3 0 0 w0 (some (.int (bI (smf c t 8)))) (cF x0 x1 x2 x3 fc ff fs ft fu (fun j => nI (wy c t j)) fy fd po, R) 0 0 4 [some (.ref 4), some (.int (bI (smf c t i))), some (.int (nI i))] [] (cF x0 x1 x2 x3 fc ff fs ft fu fw fy fd po, R) := by
    intro m
    induction m with
    | zero =>
      intro i fw hi h1
      have : i = 8 := by omega
      subst this
      refine r_weq _ (weq_F (fun _ _ => rfl) (fun _ _ => rfl) (fun _ _ => rfl) (fun _ _ => rfl) (fun _ _ => rfl) h1) ?_
      refine r_iload_n dX2_someFall_4 rfl ?_
      refine r_bipush (v := (nI 8)) dX2_someFall_5 (by decide) ?_
      refine r_icmp_geN 56 dX2_someFall_7 (by decide) (by omega) (by omega) (fun h7 => ?_) (fun h7 => ?_)
      · refine r_pc 56 rfl ?_
        refine r_iload_n dX2_someFall_56 rfl ?_
        exact r_zret dX2_someFall_57 rfl (by cases smf c t 8 <;> rfl) rfl rfl
      · exact absurd h7 (by omega)
    | succ m ih =>
      intro i fw hi h1
      have hi8 : i < 8 := by omega
      have hwl := wy_lt c t i
      have T : ∀ (fw : Nat → Int32), (∀ j, j < i + 1 → fw j = nI (wy c t j)) → Rn mX2_someFall 3 0 0 w0 (some (.int (bI (smf c t 8)))) (cF x0 x1 x2 x3 fc ff fs ft fu (fun j => nI (wy c t j)) fy fd po, R) 0 0 33 [some (.ref 4), some (.int (bI (smf c t i))), some (.int (nI i))] [] (cF x0 x1 x2 x3 fc ff fs ft fu fw fy fd po, R) := by
        intro fw h2
        have ih := ih (i + 1) fw (by omega) h2
        have e5 := h2 i (by omega)
        by_cases q : wy c t i = 0
        · rw [q] at e5
          have hs1 : smf c t (i + 1) = smf c t i := by (show (smf c t i || _) = _; simp [q])
          rw [hs1] at ih
          refine r_iload_n dX2_someFall_33 rfl ?_
          refine r_aload_n dX2_someFall_34 rfl ?_
          refine r_get dX2_someFall_35 fX2_27 rfl rfl ?_
          refine r_iload_n dX2_someFall_38 rfl ?_
          refine r_iald dX2_someFall_39 rfl rfl hi8 (by decide) ?_
          refine r_pc 40 rfl ?_
          refine r_topi _ e5 ?_
          refine r_if_eq 47 dX2_someFall_40 (by decide) (fun h40 => ?_) (fun h40 => ?_)
          · refine r_pc 47 rfl ?_
            refine r_iconst (v := (nI 0)) dX2_someFall_47 (by decide) ?_
            refine r_ior dX2_someFall_48 ?_
            refine r_topi (bI (smf c t i)) (by cases smf c t i <;> decide) ?_
            refine r_istore_n (ls' := [_, _, _]) dX2_someFall_49 (by decide) rfl ?_
            refine r_inc1 (ls' := [_, _, _]) dX2_someFall_50 (by decide) rfl rfl ?_
            refine r_goto 4 dX2_someFall_53 (by decide) ?_
            refine r_pc 4 rfl ?_
            exact ih
          · exact absurd rfl h40
        · have hs1 : smf c t (i + 1) = true := by (show (smf c t i || _) = _; simp [q])
          rw [hs1] at ih
          refine r_iload_n dX2_someFall_33 rfl ?_
          refine r_aload_n dX2_someFall_34 rfl ?_
          refine r_get dX2_someFall_35 fX2_27 rfl rfl ?_
          refine r_iload_n dX2_someFall_38 rfl ?_
          refine r_iald dX2_someFall_39 rfl rfl hi8 (by decide) ?_
          refine r_pc 40 rfl ?_
          refine r_topi _ e5 ?_
          refine r_if_eq 47 dX2_someFall_40 (by decide) (fun h40 => ?_) (fun h40 => ?_)
          · exact absurd (nI_z (by omega) h40) q
          · refine r_pc 43 rfl ?_
            refine r_iconst (v := (nI 1)) dX2_someFall_43 (by decide) ?_
            refine r_goto 48 dX2_someFall_44 (by decide) ?_
            refine r_ior dX2_someFall_48 ?_
            refine r_topi (bI true) (by cases smf c t i <;> decide) ?_
            refine r_istore_n (ls' := [_, _, _]) dX2_someFall_49 (by decide) rfl ?_
            refine r_inc1 (ls' := [_, _, _]) dX2_someFall_50 (by decide) rfl rfl ?_
            refine r_pc 53 rfl ?_
            refine r_goto 4 dX2_someFall_53 (by decide) ?_
            refine r_pc 4 rfl ?_
            exact ih
      cases hg : goesB c t i with
      | false =>
        have hw : nI (wy c t i) = nI 0 := by simp [wy, hg]
        refine r_iload_n dX2_someFall_4 rfl ?_
        refine r_bipush (v := (nI 8)) dX2_someFall_5 (by decide) ?_
        refine r_icmp_geN 56 dX2_someFall_7 (by decide) (by omega) (by omega) (fun h7 => ?_) (fun h7 => ?_)
        · exact absurd h7 (by omega)
        · refine r_pc 10 rfl ?_
          refine r_aload_n dX2_someFall_10 rfl ?_
          refine r_get dX2_someFall_11 fX2_27 rfl rfl ?_
          refine r_iload_n dX2_someFall_14 rfl ?_
          refine r_aload_n dX2_someFall_15 rfl ?_
          refine r_iload_n dX2_someFall_16 rfl ?_
          refine r_pc 17 rfl ?_
          refine r_cV dX2_someFall_17 (s_goesB hi8 hS ht hft) lX2_106 rfl rfl rfl (by decide) ⟨Nat.le_refl _, Nat.le_refl _⟩ (Nat.le_of_ble_eq_true rfl) ?_
          rw [hg]
          refine r_if_eq 31 dX2_someFall_20 (by decide) (fun h20 => ?_) (fun h20 => ?_)
          · refine r_pc 31 rfl ?_
            refine r_iconst (v := (nI 0)) dX2_someFall_31 (by decide) ?_
            refine r_iast (w2 := (cF _ _ _ _ _ _ _ _ _ _ _ _ _, _)) dX2_someFall_32 rfl rfl hi8 (by decide) rfl ?_
            refine r_pc 33 rfl ?_
            exact T _ (upd_lt h1 hw.symm)
          · exact absurd rfl h20
      | true =>
        have hw : nI (wy c t i) = nI (whyf c t i) := by simp [wy, hg]
        refine r_iload_n dX2_someFall_4 rfl ?_
        refine r_bipush (v := (nI 8)) dX2_someFall_5 (by decide) ?_
        refine r_icmp_geN 56 dX2_someFall_7 (by decide) (by omega) (by omega) (fun h7 => ?_) (fun h7 => ?_)
        · exact absurd h7 (by omega)
        · refine r_pc 10 rfl ?_
          refine r_aload_n dX2_someFall_10 rfl ?_
          refine r_get dX2_someFall_11 fX2_27 rfl rfl ?_
          refine r_iload_n dX2_someFall_14 rfl ?_
          refine r_aload_n dX2_someFall_15 rfl ?_
          refine r_iload_n dX2_someFall_16 rfl ?_
          refine r_pc 17 rfl ?_
          refine r_cV dX2_someFall_17 (s_goesB hi8 hS ht hft) lX2_106 rfl rfl rfl (by decide) ⟨Nat.le_refl _, Nat.le_refl _⟩ (Nat.le_of_ble_eq_true rfl) ?_
          rw [hg]
          refine r_if_eq 31 dX2_someFall_20 (by decide) (fun h20 => ?_) (fun h20 => ?_)
          · exact absurd h20 (by decide)
          · refine r_pc 23 rfl ?_
            refine r_aload_n dX2_someFall_23 rfl ?_
            refine r_iload_n dX2_someFall_24 rfl ?_
            refine r_cV dX2_someFall_25 (s_whyFalls hi8 hS hs ht hft) lX2_110 rfl rfl rfl (by decide) ⟨Nat.le_refl _, Nat.le_refl _⟩ (Nat.le_of_ble_eq_true rfl) ?_
            refine r_goto 32 dX2_someFall_28 (by decide) ?_
            refine r_iast (w2 := (cF _ _ _ _ _ _ _ _ _ _ _ _ _, _)) dX2_someFall_32 rfl rfl hi8 (by decide) rfl ?_
            refine r_pc 33 rfl ?_
            refine r_pc 33 rfl ?_
            exact T _ (upd_lt h1 hw.symm)
  subst hw0
  refine r_iconst (v := (nI 0)) dX2_someFall_0 (by decide) ?_
  refine r_istore_n (ls' := [_, _, _]) dX2_someFall_1 (by decide) rfl ?_
  refine r_iconst (v := (nI 0)) dX2_someFall_2 (by decide) ?_
  refine r_istore_n (ls' := [_, _, _]) dX2_someFall_3 (by decide) rfl ?_
  refine r_pc 4 rfl ?_
  exact L 8 0 _ (by omega) (fun j h => absurd h (by omega))
end F7
