/-! ===== the floor's counts, its picture ===== -/
def ahB (c f : Nat → Nat) (b : Bool) (d : Nat) : Bool := decide (c d = HC d) && (!b || decide (f d = HF d))
theorem cnt_le (p : Nat → Bool) : ∀ n, cnt p n ≤ n
  | 0 => Nat.le_refl _
  | n + 1 => by
    have := cnt_le p n
    unfold cnt
    split <;> omega
def cpB (c f : Nat → Nat) (d : Nat) : Bool := decide (d % 2 = 0) && (decide (bes c f d 1 = some (d + 1)) && decide (f (d + 1) = f d))
def sgn (c f : Nat → Nat) (x : Nat) (b : Bool) : Nat := match who c 8 x with
  | none => 46
  | some d => if b = true then 49 + d else [94, 62, 118, 60].getD (f d) 0
theorem sgn_I : ∀ i, i < 4 → ([94, 62, 118, 60] : List Int32).getD i 0 = nI ([94, 62, 118, 60].getD i 0) := by decide +kernel
section F10
variable {x0 x1 x2 x3 : AE} {fc ff fs ft fu fw : Nat → Int32} {fy fd : Int32} {po : List AE}
variable {R : List AE} {c f : Nat → Nat}
theorem s_atHome {b : Bool} (hS : Sq fc ff c f) : Sem mX2_atHome 1 0 0 [.ref 4, .int (bI b)] (cF x0 x1 x2 x3 fc ff fs ft fu fw fy fd po, R) (some (.int (nI (cnt (ahB c f b) 8)))) (cF x0 x1 x2 x3 fc ff fs ft fu fw fy fd po, R) := by
  refine sem_of (by decide) (Nat.le_of_ble_eq_true rfl) rfl ?_
  have L : ∀ (m i : Nat), i + m = 8 → Rn mX2_atHome 1 0 0 (cF x0 x1 x2 x3 fc ff fs ft fu fw fy fd po, R) (some (.int (nI (cnt (ahB c f b) 8)))) (cF x0 x1 x2 x3 fc ff fs ft fu fw fy fd po, R) 0 0 4 [some (.ref 4), some (.int (bI b)), some (.int (nI (cnt (ahB c f b) i))), some (.int (nI i))] [] (cF x0 x1 x2 x3 fc ff fs ft fu fw fy fd po, R) := by
    intro m
    induction m with
    | zero =>
      intro i hi
      have : i = 8 := by omega
      subst this
      refine r_iload_n dX2_atHome_4 rfl ?_
      refine r_bipush (v := (nI 8)) dX2_atHome_5 (by decide) ?_
      refine r_icmp_geN 51 dX2_atHome_7 (by decide) (by omega) (by omega) (fun h7 => ?_) (fun h7 => ?_)
      · refine r_pc 51 rfl ?_
        refine r_iload_n dX2_atHome_51 rfl ?_
        exact r_iret dX2_atHome_52 rfl rfl rfl
      · exact absurd h7 (by omega)
    | succ m ih =>
      intro i hi
      have hi8 : i < 8 := by omega
      have ih := ih (i + 1) (by omega)
      obtain ⟨e1, b1, e2, b2⟩ := hS i hi8
      have hh := HC_lt i hi8
      have hk := HF_lt i hi8
      cases hb : ahB c f b i with
      | true =>
        have e3 : cnt (ahB c f b) (i + 1) = cnt (ahB c f b) i + 1 := by rw [cnt, hb]
        rw [e3] at ih
        simp only [ahB, Bool.and_eq_true, Bool.or_eq_true, decide_eq_true_eq] at hb
        cases b with
        | false =>
          refine r_iload_n dX2_atHome_4 rfl ?_
          refine r_bipush (v := (nI 8)) dX2_atHome_5 (by decide) ?_
          refine r_icmp_geN 51 dX2_atHome_7 (by decide) (by omega) (by omega) (fun h7 => ?_) (fun h7 => ?_)
          · exact absurd h7 (by omega)
          · refine r_pc 10 rfl ?_
            refine r_aload_n dX2_atHome_10 rfl ?_
            refine r_get dX2_atHome_11 fX2_9 rfl rfl ?_
            refine r_iload_n dX2_atHome_14 rfl ?_
            refine r_iald dX2_atHome_15 rfl rfl hi8 (by decide) ?_
            refine r_topi _ e1 ?_
            refine r_gets (a := 0) dX2_atHome_16 rfl sX2_75 ?_
            refine r_pc 19 rfl ?_
            refine r_iload_n dX2_atHome_19 rfl ?_
            refine r_cald (v := nI (HC i)) 0 rfl (Or.inl ⟨dX2_atHome_20, rfl⟩) rfl hi8 (by decide) (HC_I i hi8) ?_
            refine r_icmp_neN 45 dX2_atHome_21 (by decide) (by omega) (by omega) (fun h21 => ?_) (fun h21 => ?_)
            · exact absurd hb.1 h21
            · refine r_pc 24 rfl ?_
              refine r_iload_n dX2_atHome_24 rfl ?_
              refine r_if_eq 42 dX2_atHome_25 (by decide) (fun h25 => ?_) (fun h25 => ?_)
              · refine r_pc 42 rfl ?_
                refine r_inc1 (ls' := [_, _, _, _]) dX2_atHome_42 (by decide) rfl rfl ?_
                refine r_inc1 (ls' := [_, _, _, _]) dX2_atHome_45 (by decide) rfl rfl ?_
                refine r_goto 4 dX2_atHome_48 (by decide) ?_
                refine r_pc 4 rfl ?_
                exact ih
              · exact absurd rfl h25
        | true =>
          have hb2 : f i = HF i := hb.2.resolve_left (by decide)
          refine r_iload_n dX2_atHome_4 rfl ?_
          refine r_bipush (v := (nI 8)) dX2_atHome_5 (by decide) ?_
          refine r_icmp_geN 51 dX2_atHome_7 (by decide) (by omega) (by omega) (fun h7 => ?_) (fun h7 => ?_)
          · exact absurd h7 (by omega)
          · refine r_pc 10 rfl ?_
            refine r_aload_n dX2_atHome_10 rfl ?_
            refine r_get dX2_atHome_11 fX2_9 rfl rfl ?_
            refine r_iload_n dX2_atHome_14 rfl ?_
            refine r_iald dX2_atHome_15 rfl rfl hi8 (by decide) ?_
            refine r_topi _ e1 ?_
            refine r_gets (a := 0) dX2_atHome_16 rfl sX2_75 ?_
            refine r_pc 19 rfl ?_
            refine r_iload_n dX2_atHome_19 rfl ?_
            refine r_cald (v := nI (HC i)) 0 rfl (Or.inl ⟨dX2_atHome_20, rfl⟩) rfl hi8 (by decide) (HC_I i hi8) ?_
            refine r_icmp_neN 45 dX2_atHome_21 (by decide) (by omega) (by omega) (fun h21 => ?_) (fun h21 => ?_)
            · exact absurd hb.1 h21
            · refine r_pc 24 rfl ?_
              refine r_iload_n dX2_atHome_24 rfl ?_
              refine r_if_eq 42 dX2_atHome_25 (by decide) (fun h25 => ?_) (fun h25 => ?_)
              · exact absurd h25 (by decide)
              · refine r_pc 28 rfl ?_
                refine r_aload_n dX2_atHome_28 rfl ?_
                refine r_get dX2_atHome_29 fX2_15 rfl rfl ?_
                refine r_iload_n dX2_atHome_32 rfl ?_
                refine r_iald dX2_atHome_33 rfl rfl hi8 (by decide) ?_
                refine r_topi _ e2 ?_
                refine r_gets (a := 1) dX2_atHome_34 rfl sX2_78 ?_
                refine r_pc 37 rfl ?_
                refine r_iload_n dX2_atHome_37 rfl ?_
                refine r_cald (v := nI (HF i)) 1 rfl (Or.inl ⟨dX2_atHome_38, rfl⟩) rfl hi8 (by decide) (HF_I i hi8) ?_
                refine r_icmp_neN 45 dX2_atHome_39 (by decide) (by omega) (by omega) (fun h39 => ?_) (fun h39 => ?_)
                · exact absurd hb2 h39
                · refine r_pc 42 rfl ?_
                  refine r_inc1 (ls' := [_, _, _, _]) dX2_atHome_42 (by decide) rfl rfl ?_
                  refine r_inc1 (ls' := [_, _, _, _]) dX2_atHome_45 (by decide) rfl rfl ?_
                  refine r_goto 4 dX2_atHome_48 (by decide) ?_
                  refine r_pc 4 rfl ?_
                  exact ih
      | false =>
        have e3 : cnt (ahB c f b) (i + 1) = cnt (ahB c f b) i := by rw [cnt, hb]
        rw [e3] at ih
        by_cases hc : c i = HC i
        · cases b with
          | false => simp [ahB, hc] at hb
          | true =>
            have hf : ¬ f i = HF i := by simpa [ahB, hc] using hb
            refine r_iload_n dX2_atHome_4 rfl ?_
            refine r_bipush (v := (nI 8)) dX2_atHome_5 (by decide) ?_
            refine r_icmp_geN 51 dX2_atHome_7 (by decide) (by omega) (by omega) (fun h7 => ?_) (fun h7 => ?_)
            · exact absurd h7 (by omega)
            · refine r_pc 10 rfl ?_
              refine r_aload_n dX2_atHome_10 rfl ?_
              refine r_get dX2_atHome_11 fX2_9 rfl rfl ?_
              refine r_iload_n dX2_atHome_14 rfl ?_
              refine r_iald dX2_atHome_15 rfl rfl hi8 (by decide) ?_
              refine r_topi _ e1 ?_
              refine r_gets (a := 0) dX2_atHome_16 rfl sX2_75 ?_
              refine r_pc 19 rfl ?_
              refine r_iload_n dX2_atHome_19 rfl ?_
              refine r_cald (v := nI (HC i)) 0 rfl (Or.inl ⟨dX2_atHome_20, rfl⟩) rfl hi8 (by decide) (HC_I i hi8) ?_
              refine r_icmp_neN 45 dX2_atHome_21 (by decide) (by omega) (by omega) (fun h21 => ?_) (fun h21 => ?_)
              · exact absurd hc h21
              · refine r_pc 24 rfl ?_
                refine r_iload_n dX2_atHome_24 rfl ?_
                refine r_if_eq 42 dX2_atHome_25 (by decide) (fun h25 => ?_) (fun h25 => ?_)
                · exact absurd h25 (by decide)
                · refine r_pc 28 rfl ?_
                  refine r_aload_n dX2_atHome_28 rfl ?_
                  refine r_get dX2_atHome_29 fX2_15 rfl rfl ?_
                  refine r_iload_n dX2_atHome_32 rfl ?_
                  refine r_iald dX2_atHome_33 rfl rfl hi8 (by decide) ?_
                  refine r_topi _ e2 ?_
                  refine r_gets (a := 1) dX2_atHome_34 rfl sX2_78 ?_
                  refine r_pc 37 rfl ?_
                  refine r_iload_n dX2_atHome_37 rfl ?_
                  refine r_cald (v := nI (HF i)) 1 rfl (Or.inl ⟨dX2_atHome_38, rfl⟩) rfl hi8 (by decide) (HF_I i hi8) ?_
                  refine r_icmp_neN 45 dX2_atHome_39 (by decide) (by omega) (by omega) (fun h39 => ?_) (fun h39 => ?_)
                  · refine r_pc 45 rfl ?_
                    refine r_inc1 (ls' := [_, _, _, _]) dX2_atHome_45 (by decide) rfl rfl ?_
                    refine r_goto 4 dX2_atHome_48 (by decide) ?_
                    refine r_pc 4 rfl ?_
                    exact ih
                  · exact absurd h39 hf
        · refine r_iload_n dX2_atHome_4 rfl ?_
          refine r_bipush (v := (nI 8)) dX2_atHome_5 (by decide) ?_
          refine r_icmp_geN 51 dX2_atHome_7 (by decide) (by omega) (by omega) (fun h7 => ?_) (fun h7 => ?_)
          · exact absurd h7 (by omega)
          · refine r_pc 10 rfl ?_
            refine r_aload_n dX2_atHome_10 rfl ?_
            refine r_get dX2_atHome_11 fX2_9 rfl rfl ?_
            refine r_iload_n dX2_atHome_14 rfl ?_
            refine r_iald dX2_atHome_15 rfl rfl hi8 (by decide) ?_
            refine r_topi _ e1 ?_
            refine r_gets (a := 0) dX2_atHome_16 rfl sX2_75 ?_
            refine r_pc 19 rfl ?_
            refine r_iload_n dX2_atHome_19 rfl ?_
            refine r_cald (v := nI (HC i)) 0 rfl (Or.inl ⟨dX2_atHome_20, rfl⟩) rfl hi8 (by decide) (HC_I i hi8) ?_
            refine r_icmp_neN 45 dX2_atHome_21 (by decide) (by omega) (by omega) (fun h21 => ?_) (fun h21 => ?_)
            · refine r_pc 45 rfl ?_
              refine r_inc1 (ls' := [_, _, _, _]) dX2_atHome_45 (by decide) rfl rfl ?_
              refine r_goto 4 dX2_atHome_48 (by decide) ?_
              refine r_pc 4 rfl ?_
              exact ih
            · exact absurd h21 hc
  refine r_iconst (v := (nI 0)) dX2_atHome_0 (by decide) ?_
  refine r_istore_n (ls' := [_, _, _, _]) dX2_atHome_1 (by decide) rfl ?_
  refine r_iconst (v := (nI 0)) dX2_atHome_2 (by decide) ?_
  refine r_istore_n (ls' := [_, _, _, _]) dX2_atHome_3 (by decide) rfl ?_
  refine r_pc 4 rfl ?_
  exact L 8 0 (by omega)
theorem s_couples (hS : Sq fc ff c f) (hs : Sd fs c) : Sem mX2_couples 3 0 0 [.ref 4] (cF x0 x1 x2 x3 fc ff fs ft fu fw fy fd po, R) (some (.int (nI (cnt (cpB c f) 8)))) (cF x0 x1 x2 x3 fc ff fs ft fu fw fy fd po, R) := by
  refine sem_of (by decide) (Nat.le_of_ble_eq_true rfl) rfl ?_
  have L : ∀ (m i : Nat) (y3 : Option Value), i + m = 4 → Rn mX2_couples 3 0 0 (cF x0 x1 x2 x3 fc ff fs ft fu fw fy fd po, R) (some (.int (nI (cnt (cpB c f) 8)))) (cF x0 x1 x2 x3 fc ff fs ft fu fw fy fd po, R) 0 0 4 [some (.ref 4), some (.int (nI (cnt (cpB c f) (2 * i)))), some (.int (nI (2 * i))), y3] [] (cF x0 x1 x2 x3 fc ff fs ft fu fw fy fd po, R) := by
    intro m
    induction m with
    | zero =>
      intro i y3 hi
      have : i = 4 := by omega
      subst this
      refine r_iload_n dX2_couples_4 rfl ?_
      refine r_bipush (v := (nI 8)) dX2_couples_5 (by decide) ?_
      refine r_icmp_geN 42 dX2_couples_7 (by decide) (by omega) (by omega) (fun h7 => ?_) (fun h7 => ?_)
      · refine r_pc 42 rfl ?_
        refine r_iload_n dX2_couples_42 rfl ?_
        exact r_iret dX2_couples_43 rfl rfl rfl
      · exact absurd h7 (by decide)
    | succ m ih =>
      intro i y3 hi
      have hi8 : 2 * i < 8 := by omega
      have ih := fun y3 => ih (i + 1) y3 (by omega)
      have e2 : 2 * (i + 1) = 2 * i + 1 + 1 := by omega
      have hodd : cpB c f (2 * i + 1) = false := by
        have : ¬ (2 * i + 1) % 2 = 0 := by omega
        simp [cpB, this]
      have e3 : cnt (cpB c f) (2 * (i + 1)) = cnt (cpB c f) (2 * i + 1) := by rw [e2, cnt, hodd]
      rw [e3] at ih
      have hev : (2 * i) % 2 = 0 := by omega
      by_cases hb : bes c f (2 * i) 1 = some (2 * i + 1)
      · by_cases hf : f (2 * i + 1) = f (2 * i)
        · have e4 : cnt (cpB c f) (2 * i + 1) = cnt (cpB c f) (2 * i) + 1 := by rw [cnt, show cpB c f (2 * i) = true by simp [cpB, hb, hf]]
          rw [e4, e2] at ih
          refine r_iload_n dX2_couples_4 rfl ?_
          refine r_bipush (v := (nI 8)) dX2_couples_5 (by decide) ?_
          refine r_icmp_geN 42 dX2_couples_7 (by decide) (by omega) (by omega) (fun h7 => ?_) (fun h7 => ?_)
          · exact absurd h7 (by omega)
          · refine r_pc 10 rfl ?_
            refine r_iload_n dX2_couples_10 rfl ?_
            refine r_iconst (v := (nI 1)) dX2_couples_11 (by decide) ?_
            refine r_iaddN dX2_couples_12 ?_
            refine r_istore_n (ls' := [_, _, _, _]) dX2_couples_13 (by decide) rfl ?_
            refine r_aload_n dX2_couples_14 rfl ?_
            refine r_pc 15 rfl ?_
            refine r_iload_n dX2_couples_15 rfl ?_
            refine r_iconst (v := (nI 1)) dX2_couples_16 (by decide) ?_
            refine r_cV dX2_couples_17 (s_beside hi8 (by decide) hS hs) lX2_103 rfl rfl rfl (by decide) ⟨Nat.le_refl _, Nat.le_refl _⟩ (Nat.le_of_ble_eq_true rfl) ?_
            refine r_iload_n dX2_couples_20 rfl ?_
            refine r_icmp_ne 36 dX2_couples_21 (by decide) (fun h21 => ?_) (fun h21 => ?_)
            · exact absurd (by rw [hb]; rfl) h21
            · refine r_pc 24 rfl ?_
              refine r_aload_n dX2_couples_24 rfl ?_
              refine r_iload_n dX2_couples_25 rfl ?_
              refine r_iload_n dX2_couples_26 rfl ?_
              refine r_cV dX2_couples_27 (s_facesLike (o := some (2 * i + 1)) hi8 (fun e he => by cases he; omega) hS) lX2_119 rfl rfl rfl (by decide) ⟨Nat.le_refl _, Nat.le_refl _⟩ (Nat.le_of_ble_eq_true rfl) ?_
              rw [show lik f (2 * i) (some (2 * i + 1)) = true by simp [lik, hf]]
              refine r_if_eq 36 dX2_couples_30 (by decide) (fun h30 => ?_) (fun h30 => ?_)
              · exact absurd h30 (by decide)
              · refine r_pc 33 rfl ?_
                refine r_inc1 (ls' := [_, _, _, _]) dX2_couples_33 (by decide) rfl rfl ?_
                refine r_iinc (ls' := [_, _, _, _]) dX2_couples_36 (by decide) rfl (show nI (2 * i) + Int32.ofInt 2 = nI (2 * i + 1 + 1) from nI_add (2 * i) 2) rfl ?_
                refine r_goto 4 dX2_couples_39 (by decide) ?_
                refine r_pc 4 rfl ?_
                exact ih _
        · have e4 : cnt (cpB c f) (2 * i + 1) = cnt (cpB c f) (2 * i) := by rw [cnt, show cpB c f (2 * i) = false by simp [cpB, hf]]
          rw [e4, e2] at ih
          refine r_iload_n dX2_couples_4 rfl ?_
          refine r_bipush (v := (nI 8)) dX2_couples_5 (by decide) ?_
          refine r_icmp_geN 42 dX2_couples_7 (by decide) (by omega) (by omega) (fun h7 => ?_) (fun h7 => ?_)
          · exact absurd h7 (by omega)
          · refine r_pc 10 rfl ?_
            refine r_iload_n dX2_couples_10 rfl ?_
            refine r_iconst (v := (nI 1)) dX2_couples_11 (by decide) ?_
            refine r_iaddN dX2_couples_12 ?_
            refine r_istore_n (ls' := [_, _, _, _]) dX2_couples_13 (by decide) rfl ?_
            refine r_aload_n dX2_couples_14 rfl ?_
            refine r_pc 15 rfl ?_
            refine r_iload_n dX2_couples_15 rfl ?_
            refine r_iconst (v := (nI 1)) dX2_couples_16 (by decide) ?_
            refine r_cV dX2_couples_17 (s_beside hi8 (by decide) hS hs) lX2_103 rfl rfl rfl (by decide) ⟨Nat.le_refl _, Nat.le_refl _⟩ (Nat.le_of_ble_eq_true rfl) ?_
            refine r_iload_n dX2_couples_20 rfl ?_
            refine r_icmp_ne 36 dX2_couples_21 (by decide) (fun h21 => ?_) (fun h21 => ?_)
            · exact absurd (by rw [hb]; rfl) h21
            · refine r_pc 24 rfl ?_
              refine r_aload_n dX2_couples_24 rfl ?_
              refine r_iload_n dX2_couples_25 rfl ?_
              refine r_iload_n dX2_couples_26 rfl ?_
              refine r_cV dX2_couples_27 (s_facesLike (o := some (2 * i + 1)) hi8 (fun e he => by cases he; omega) hS) lX2_119 rfl rfl rfl (by decide) ⟨Nat.le_refl _, Nat.le_refl _⟩ (Nat.le_of_ble_eq_true rfl) ?_
              rw [show lik f (2 * i) (some (2 * i + 1)) = false by simp [lik, hf]]
              refine r_if_eq 36 dX2_couples_30 (by decide) (fun h30 => ?_) (fun h30 => ?_)
              · refine r_pc 36 rfl ?_
                refine r_iinc (ls' := [_, _, _, _]) dX2_couples_36 (by decide) rfl (show nI (2 * i) + Int32.ofInt 2 = nI (2 * i + 1 + 1) from nI_add (2 * i) 2) rfl ?_
                refine r_goto 4 dX2_couples_39 (by decide) ?_
                refine r_pc 4 rfl ?_
                exact ih _
              · exact absurd rfl h30
      · have e4 : cnt (cpB c f) (2 * i + 1) = cnt (cpB c f) (2 * i) := by rw [cnt, show cpB c f (2 * i) = false by simp [cpB, hb]]
        rw [e4, e2] at ih
        refine r_iload_n dX2_couples_4 rfl ?_
        refine r_bipush (v := (nI 8)) dX2_couples_5 (by decide) ?_
        refine r_icmp_geN 42 dX2_couples_7 (by decide) (by omega) (by omega) (fun h7 => ?_) (fun h7 => ?_)
        · exact absurd h7 (by omega)
        · refine r_pc 10 rfl ?_
          refine r_iload_n dX2_couples_10 rfl ?_
          refine r_iconst (v := (nI 1)) dX2_couples_11 (by decide) ?_
          refine r_iaddN dX2_couples_12 ?_
          refine r_istore_n (ls' := [_, _, _, _]) dX2_couples_13 (by decide) rfl ?_
          refine r_aload_n dX2_couples_14 rfl ?_
          refine r_pc 15 rfl ?_
          refine r_iload_n dX2_couples_15 rfl ?_
          refine r_iconst (v := (nI 1)) dX2_couples_16 (by decide) ?_
          refine r_cV dX2_couples_17 (s_beside hi8 (by decide) hS hs) lX2_103 rfl rfl rfl (by decide) ⟨Nat.le_refl _, Nat.le_refl _⟩ (Nat.le_of_ble_eq_true rfl) ?_
          refine r_iload_n dX2_couples_20 rfl ?_
          refine r_icmp_ne 36 dX2_couples_21 (by decide) (fun h21 => ?_) (fun h21 => ?_)
          · refine r_pc 36 rfl ?_
            refine r_iinc (ls' := [_, _, _, _]) dX2_couples_36 (by decide) rfl (show nI (2 * i) + Int32.ofInt 2 = nI (2 * i + 1 + 1) from nI_add (2 * i) 2) rfl ?_
            refine r_goto 4 dX2_couples_39 (by decide) ?_
            refine r_pc 4 rfl ?_
            exact ih _
          · exact absurd ((stI_nI (fun y hy => by have := bes_lt hy; omega) (by omega)).mp h21) hb
  refine r_iconst (v := (nI 0)) dX2_couples_0 (by decide) ?_
  refine r_istore_n (ls' := [_, _, _, _]) dX2_couples_1 (by decide) rfl ?_
  refine r_iconst (v := (nI 0)) dX2_couples_2 (by decide) ?_
  refine r_istore_n (ls' := [_, _, _, _]) dX2_couples_3 (by decide) rfl ?_
  refine r_pc 4 rfl ?_
  exact L 4 0 _ (by omega)
theorem s_signOf {x : Nat} {b : Bool} (hx : x < 16) (hS : Sq fc ff c f) (hs : Sd fs c) : Sem mX2_signOf 1 0 0 [.ref 4, .int (nI x), .int (bI b)] (cF x0 x1 x2 x3 fc ff fs ft fu fw fy fd po, R) (some (.int (nI (sgn c f x b)))) (cF x0 x1 x2 x3 fc ff fs ft fu fw fy fd po, R) := by
  refine sem_of (by decide) (Nat.le_of_ble_eq_true rfl) rfl ?_
  have e3 := hs x hx
  unfold sgn
  cases hw : who c 8 x with
  | none =>
    rw [hw] at e3
    refine r_iload_n dX2_signOf_0 rfl ?_
    refine r_if_lt 19 dX2_signOf_1 (by decide) (fun h1 => ?_) (fun h1 => ?_)
    · exact absurd h1 (nI_pos (by omega))
    · refine r_pc 4 rfl ?_
      refine r_iload_n dX2_signOf_4 rfl ?_
      refine r_bipush (v := (nI 16)) dX2_signOf_5 (by decide) ?_
      refine r_icmp_geN 19 dX2_signOf_7 (by decide) (by omega) (by omega) (fun h7 => ?_) (fun h7 => ?_)
      · exact absurd h7 (by omega)
      · refine r_pc 10 rfl ?_
        refine r_aload_n dX2_signOf_10 rfl ?_
        refine r_get dX2_signOf_11 fX2_18 rfl rfl ?_
        refine r_iload_n dX2_signOf_14 rfl ?_
        refine r_iald dX2_signOf_15 rfl rfl hx (by decide) ?_
        refine r_goto 20 dX2_signOf_16 (by decide) ?_
        refine r_topi (-1) e3 ?_
        refine r_istore_n (ls' := [_, _, _, _]) dX2_signOf_20 (by decide) rfl ?_
        refine r_iload_n dX2_signOf_21 rfl ?_
        refine r_iconst (v := (-1)) dX2_signOf_22 (by decide) ?_
        refine r_icmp_ne 29 dX2_signOf_23 (by decide) (fun h23 => ?_) (fun h23 => ?_)
        · exact absurd rfl h23
        · refine r_pc 26 rfl ?_
          refine r_bipush (v := (nI 46)) dX2_signOf_26 (by decide) ?_
          exact r_iret dX2_signOf_28 rfl rfl rfl
  | some d =>
    rw [hw] at e3
    have hd := who_lt hw
    obtain ⟨-, -, e2, b2⟩ := hS d hd
    cases b with
    | true =>
      refine r_iload_n dX2_signOf_0 rfl ?_
      refine r_if_lt 19 dX2_signOf_1 (by decide) (fun h1 => ?_) (fun h1 => ?_)
      · exact absurd h1 (nI_pos (by omega))
      · refine r_pc 4 rfl ?_
        refine r_iload_n dX2_signOf_4 rfl ?_
        refine r_bipush (v := (nI 16)) dX2_signOf_5 (by decide) ?_
        refine r_icmp_geN 19 dX2_signOf_7 (by decide) (by omega) (by omega) (fun h7 => ?_) (fun h7 => ?_)
        · exact absurd h7 (by omega)
        · refine r_pc 10 rfl ?_
          refine r_aload_n dX2_signOf_10 rfl ?_
          refine r_get dX2_signOf_11 fX2_18 rfl rfl ?_
          refine r_iload_n dX2_signOf_14 rfl ?_
          refine r_iald dX2_signOf_15 rfl rfl hx (by decide) ?_
          refine r_goto 20 dX2_signOf_16 (by decide) ?_
          refine r_topi (nI d) e3 ?_
          refine r_istore_n (ls' := [_, _, _, _]) dX2_signOf_20 (by decide) rfl ?_
          refine r_iload_n dX2_signOf_21 rfl ?_
          refine r_iconst (v := (-1)) dX2_signOf_22 (by decide) ?_
          refine r_icmp_ne 29 dX2_signOf_23 (by decide) (fun h23 => ?_) (fun h23 => ?_)
          · refine r_pc 29 rfl ?_
            refine r_iload_n dX2_signOf_29 rfl ?_
            refine r_if_eq 40 dX2_signOf_30 (by decide) (fun h30 => ?_) (fun h30 => ?_)
            · exact absurd h30 (by decide)
            · refine r_pc 33 rfl ?_
              refine r_bipush (v := (nI 49)) dX2_signOf_33 (by decide) ?_
              refine r_iload_n dX2_signOf_35 rfl ?_
              refine r_iaddN dX2_signOf_36 ?_
              refine r_goto 52 dX2_signOf_37 (by decide) ?_
              exact r_iret dX2_signOf_52 rfl rfl rfl
          · exact absurd h23 (nI_m1 (by omega))
    | false =>
      have e5 : nI (f d) &&& nI 3 = nI (f d) := by
        have : nI (f d) &&& nI 3 = nI (f d % 2 ^ 2) := pk_andN (by omega) 2 (by decide)
        rw [this, Nat.mod_eq_of_lt b2]
      refine r_iload_n dX2_signOf_0 rfl ?_
      refine r_if_lt 19 dX2_signOf_1 (by decide) (fun h1 => ?_) (fun h1 => ?_)
      · exact absurd h1 (nI_pos (by omega))
      · refine r_pc 4 rfl ?_
        refine r_iload_n dX2_signOf_4 rfl ?_
        refine r_bipush (v := (nI 16)) dX2_signOf_5 (by decide) ?_
        refine r_icmp_geN 19 dX2_signOf_7 (by decide) (by omega) (by omega) (fun h7 => ?_) (fun h7 => ?_)
        · exact absurd h7 (by omega)
        · refine r_pc 10 rfl ?_
          refine r_aload_n dX2_signOf_10 rfl ?_
          refine r_get dX2_signOf_11 fX2_18 rfl rfl ?_
          refine r_iload_n dX2_signOf_14 rfl ?_
          refine r_iald dX2_signOf_15 rfl rfl hx (by decide) ?_
          refine r_goto 20 dX2_signOf_16 (by decide) ?_
          refine r_topi (nI d) e3 ?_
          refine r_istore_n (ls' := [_, _, _, _]) dX2_signOf_20 (by decide) rfl ?_
          refine r_iload_n dX2_signOf_21 rfl ?_
          refine r_iconst (v := (-1)) dX2_signOf_22 (by decide) ?_
          refine r_icmp_ne 29 dX2_signOf_23 (by decide) (fun h23 => ?_) (fun h23 => ?_)
          · refine r_pc 29 rfl ?_
            refine r_iload_n dX2_signOf_29 rfl ?_
            refine r_if_eq 40 dX2_signOf_30 (by decide) (fun h30 => ?_) (fun h30 => ?_)
            · refine r_pc 40 rfl ?_
              refine r_gets (a := 4) dX2_signOf_40 rfl sX2_128 ?_
              refine r_aload_n dX2_signOf_43 rfl ?_
              refine r_get dX2_signOf_44 fX2_15 rfl rfl ?_
              refine r_iload_n dX2_signOf_47 rfl ?_
              refine r_iald dX2_signOf_48 rfl rfl hd (by decide) ?_
              refine r_pc 49 rfl ?_
              refine r_topi _ e2 ?_
              refine r_iconst (v := (nI 3)) dX2_signOf_49 (by decide) ?_
              refine r_iand dX2_signOf_50 ?_
              refine r_topi _ e5 ?_
              refine r_cald (v := nI ([94, 62, 118, 60].getD (f d) 0)) 4 rfl (Or.inr ⟨dX2_signOf_51, rfl⟩) rfl b2 (by decide) (sgn_I _ b2) ?_
              exact r_iret dX2_signOf_52 rfl rfl rfl
            · exact absurd rfl h30
          · exact absurd h23 (nI_m1 (by omega))
end F10
