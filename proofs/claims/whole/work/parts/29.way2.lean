/-! ===== the way home, searched by the class ===== -/
def Bs (l : BL) : Prop := 1 ≤ l.length ∧ l.length ≤ 250 ∧ ∀ j x, l[j]? = some x → (0 < j → x.2.1 < j) ∧ x.2.2 < 1000
def Bw (wr : Nat → Int64) (wf wb : Nat → Int32) (l : BL) : Prop := ∀ j x, l[j]? = some x → wr j = x.1 ∧ wf j = nI x.2.1 ∧ wb j = nI x.2.2
theorem pthL_eq {l : BL} (h : Bs l) : ∀ m m' i, i ≤ m → i ≤ m' → pthL l m i = pthL l m' i := by
  intro m
  induction m with
  | zero =>
    intro m' i h1 h2
    have : i = 0 := by omega
    subst this
    cases m' <;> simp [pthL]
  | succ m ih =>
    intro m' i h1 h2
    by_cases hi : i = 0
    · subst hi
      cases m' <;> simp [pthL]
    · cases m' with
      | zero => omega
      | succ m' =>
        unfold pthL
        rw [if_neg hi, if_neg hi]
        cases hx : l[i]? with
        | none => rfl
        | some x =>
          have := (h.2.2 i x hx).1 (by omega)
          dsimp only
          rw [ih m' x.2.1 (by omega) (by omega)]
theorem pthL_step {l : BL} (h : Bs l) {i : Nat} {x : Int64 × Nat × Nat} (hi : 0 < i) (hx : l[i]? = some x) : pthL l 250 i = pthL l 250 x.2.1 ++ [x.2.2] := by
  have h1 := (List.getElem?_eq_some_iff.mp hx).1
  have h2 := h.2.1
  have h3 := (h.2.2 i x hx).1 hi
  rw [show pthL l 250 i = pthL l 249 x.2.1 ++ [x.2.2] by
    show (if i = 0 then [] else _) = _
    rw [if_neg (by omega), hx]]
  rw [pthL_eq h 249 250 x.2.1 (by omega) (by omega)]
theorem pthL_len {l : BL} (h : Bs l) : ∀ n i, i ≤ n → i < l.length → (pthL l 250 i).length ≤ i := by
  intro n
  induction n with
  | zero =>
    intro i h1 h2
    have : i = 0 := by omega
    subst this
    simp [pthL]
  | succ n ih =>
    intro i h1 h2
    by_cases hi : i = 0
    · subst hi; simp [pthL]
    · have hx : l[i]? = some l[i] := List.getElem?_eq_getElem h2
      have h3 := (h.2.2 i _ hx).1 (by omega)
      rw [pthL_step h (by omega) hx, List.length_append]
      have := ih l[i].2.1 (by omega) (by omega)
      simp
      omega
theorem amg_L {q : Int64} {wr : Nat → Int64} {wf wb : Nat → Int32} {l : BL} (h : Bw wr wf wb l) : amg q wr l.length = amgL q l := by
  have : ∀ n, n ≤ l.length → amg q wr n = amgL q (l.take n) := by
    intro n
    induction n with
    | zero => intro _; simp [amg, amgL]
    | succ n ih =>
      intro hn
      have hx : l[n]? = some l[n] := List.getElem?_eq_getElem (by omega)
      have e : l.take (n + 1) = l.take n ++ [l[n]] := by rw [List.take_add_one, hx]; rfl
      show (amg q wr n || decide (wr n = q)) = _
      rw [ih (by omega), e, (h n _ hx).1]
      simp only [amgL, List.any_append, List.any_cons, List.any_nil, Bool.or_false]
  have h2 := this l.length (Nat.le_refl _)
  rwa [List.take_length] at h2
theorem Bw_push {wr : Nat → Int64} {wf wb : Nat → Int32} {l : BL} {q : Int64} {k c : Nat} (h : Bw wr wf wb l) : Bw (vp_updL wr l.length q) (upd wf l.length (nI k)) (upd wb l.length (nI c)) (l ++ [(q, k, c)]) := by
  intro j x hx
  by_cases hj : j < l.length
  · rw [List.getElem?_append_left hj] at hx
    rw [pk_uLn (by omega), pk_un (by omega), pk_un (by omega)]
    exact h j x hx
  · rw [List.getElem?_append_right (by omega)] at hx
    have h0 : j - l.length = 0 := by
      cases hz : j - l.length with
      | zero => rfl
      | succ z => rw [hz] at hx; simp at hx
    rw [h0] at hx
    simp at hx
    subst hx
    have : j = l.length := by omega
    subst this
    exact ⟨pk_uLs, pk_us, pk_us⟩
theorem Bs_push {l : BL} {q : Int64} {k c : Nat} (h : Bs l) (hk : k < l.length) (hc : c < 1000) (hl : l.length < 250) : Bs (l ++ [(q, k, c)]) := by
  refine ⟨by simp, by simp; omega, fun j x hx => ?_⟩
  by_cases hj : j < l.length
  · rw [List.getElem?_append_left hj] at hx
    exact h.2.2 j x hx
  · rw [List.getElem?_append_right (by omega)] at hx
    have h0 : j - l.length = 0 := by
      cases hz : j - l.length with
      | zero => rfl
      | succ z => rw [hz] at hx; simp at hx
    rw [h0] at hx
    simp at hx
    subst hx
    exact ⟨fun _ => by dsimp only; omega, hc⟩
/-- what a call makes of a square, as the class packs it -/
def nxC (q : Int64) (c : Nat) : Option Int64 := match POK (sqc q) (sqf q) (c / 12) (c % 12) with
  | true => some (pkI (fun j => stI (PT (sqc q) (sqf q) (c / 12) (c % 12) j)) (fun j => nI (PU (sqc q) (sqf q) (c / 12) (c % 12) j)) 8)
  | false => none
theorem nI_pos3 {i : Nat} (h0 : 0 < i) (h : i < 2 ^ 31) : ¬ nI i ≤ 0 := nI_nle h0 h
theorem Sq_load (q : Int64) : Sq (fun j => nI (sqc q j)) (fun j => nI (sqf q j)) (sqc q) (sqf q) := fun j _ => ⟨rfl, sqc_lt q j, rfl, sqf_lt q j⟩
theorem Sd_load (q : Int64) : Sd (fun x => stI (who (sqc q) 8 x)) (sqc q) := fun _ _ => rfl
section W1
variable {tb : Nat → Int32} {tl : Int32} {tc : Nat → Int32} {tn : Int32} {fc ff fs ft fu fw : Nat → Int32} {fy fd : Int32} {dc : Nat → Int32} {dp dq : Nat → Int64} {dn dm : Int32} {ec : Nat → Int32} {ep eq : Nat → Int64} {en em ik : Int32} {lr : Nat → Int32} {ln ly : Int32} {wh : Int64} {wr : Nat → Int64} {wf wb : Nat → Int32} {wn : Int32} {gz : G8} {wc : Nat → Int32} {ws : Int64} {wa pw pf pl : Int32} {ta : Nat → Int32}
variable {R : List AE} {l : BL}
theorem weq_wc {wc' : Nat → Int32} (h : ∀ j, j < 250 → wc j = wc' j) : weq (cW tb tl tc tn fc ff fs ft fu fw fy fd dc dp dq dn dm ec ep eq en em ik lr ln ly wh wr wf wb wn gz wc ws wa pw pf pl ta, R) (cW tb tl tc tn fc ff fs ft fu fw fy fd dc dp dq dn dm ec ep eq en em ik lr ln ly wh wr wf wb wn gz (wc') ws wa pw pf pl ta, R) :=
  ⟨⟨eeq_rf _, eeq_rf _, eeq_rf _, eeq_rf _, eeq_rf _, eeq_rf _, eeq_rf _, eeq_rf _, eeq_rf _, eeq_rf _, eeq_rf _, eeq_rf _, eeq_rf _, eeq_rf _, eeq_rf _, eeq_rf _, eeq_rf _, eeq_rf _, eeq_rf _, eeq_rf _, eeq_rf _, eeq_rf _, eeq_rf _, eeq_rf _, eeq_rf _, eeq_rf _, eeq_rf _, eeq_rf _, eeq_rf _, eeq_rf _, eeq_rf _, eeq_rf _, ⟨rfl, rfl, h⟩, eeq_rf _, eeq_rf _, trivial⟩, leq_rf _⟩
theorem s_codeAtW {n i : Nat} (hn : n ≤ 250) (hi : i < n) : Sem mX6_codeAt 1 0 0 [.ref 21, .int (nI i)] (cW tb tl tc tn fc ff fs ft fu fw fy fd dc dp dq dn dm ec ep eq en em ik lr ln ly wh wr wf wb wn gz wc ws (nI n) pw pf pl ta, R) (some (.int (wc i))) (cW tb tl tc tn fc ff fs ft fu fw fy fd dc dp dq dn dm ec ep eq en em ik lr ln ly wh wr wf wb wn gz wc ws (nI n) pw pf pl ta, R) := by
  refine sem_of (by decide) (Nat.le_of_ble_eq_true rfl) rfl ?_
  refine r_iload_n dX6_codeAt_0 rfl ?_
  refine r_if_lt 28 dX6_codeAt_1 (by decide) (fun h1 => ?_) (fun h1 => ?_)
  · exact absurd h1 (nI_pos (by omega))
  · refine r_pc 4 rfl ?_
    refine r_iload_n dX6_codeAt_4 rfl ?_
    refine r_sipush (v := (nI 250)) dX6_codeAt_5 (by decide) ?_
    refine r_icmp_geN 28 dX6_codeAt_8 (by decide) (by omega) (by omega) (fun h8 => ?_) (fun h8 => ?_)
    · exact absurd h8 (by omega)
    · refine r_pc 11 rfl ?_
      refine r_iload_n dX6_codeAt_11 rfl ?_
      refine r_aload_n dX6_codeAt_12 rfl ?_
      refine r_get dX6_codeAt_13 fX6_49 rfl rfl ?_
      refine r_icmp_geN 28 dX6_codeAt_16 (by decide) (by omega) (by omega) (fun h16 => ?_) (fun h16 => ?_)
      · exact absurd h16 (by omega)
      · refine r_pc 19 rfl ?_
        refine r_aload_n dX6_codeAt_19 rfl ?_
        refine r_get dX6_codeAt_20 fX6_43 rfl rfl ?_
        refine r_iload_n dX6_codeAt_23 rfl ?_
        refine r_iald dX6_codeAt_24 rfl rfl (by omega) (by decide) ?_
        refine r_goto 29 dX6_codeAt_25 (by decide) ?_
        exact r_iret dX6_codeAt_29 rfl rfl rfl
theorem s_addW {n : Nat} {q : Int64} {x y : Int32} (hn : n < 250) : Sem mX6_add 1 0 0 [.ref 21, .long q, .int x, .int y] (cW tb tl tc tn fc ff fs ft fu fw fy fd dc dp dq dn dm ec ep eq en em ik lr ln ly wh wr wf wb (nI n) gz wc ws wa pw pf pl ta, R) (some (.int (nI 1))) (cW tb tl tc tn fc ff fs ft fu fw fy fd dc dp dq dn dm ec ep eq en em ik lr ln ly wh (vp_updL wr n q) (upd wf n x) (upd wb n y) (nI (n + 1)) gz wc ws wa pw pf pl ta, R) := by
  refine sem_of (by decide) (Nat.le_of_ble_eq_true rfl) rfl ?_
  refine r_aload_n dX6_add_0 rfl ?_
  refine r_get dX6_add_1 fX6_39 rfl rfl ?_
  refine r_sipush (v := (nI 250)) dX6_add_4 (by decide) ?_
  refine r_icmp_ltN 12 dX6_add_7 (by decide) (by omega) (by omega) (fun h7 => ?_) (fun h7 => ?_)
  · refine r_pc 12 rfl ?_
    refine r_aload_n dX6_add_12 rfl ?_
    refine r_get dX6_add_13 fX6_28 rfl rfl ?_
    refine r_aload_n dX6_add_16 rfl ?_
    refine r_get dX6_add_17 fX6_39 rfl rfl ?_
    refine r_lload_n dX6_add_20 rfl ?_
    refine r_pc 21 rfl ?_
    refine r_last (w2 := (cW _ _ _ _ _ _ _ _ _ _ _ _ _ _ _ _ _ _ _ _ _ _ _ _ _ _ _ _ _ _ _ _ _ _ _ _ _ _ _, _)) dX6_add_21 rfl rfl (by omega) (by decide) rfl ?_
    refine r_aload_n dX6_add_22 rfl ?_
    refine r_get dX6_add_23 fX6_32 rfl rfl ?_
    refine r_aload_n dX6_add_26 rfl ?_
    refine r_get dX6_add_27 fX6_39 rfl rfl ?_
    refine r_pc 30 rfl ?_
    refine r_iload_n dX6_add_30 rfl ?_
    refine r_iast (w2 := (cW _ _ _ _ _ _ _ _ _ _ _ _ _ _ _ _ _ _ _ _ _ _ _ _ _ _ _ _ _ _ _ _ _ _ _ _ _ _ _, _)) dX6_add_31 rfl rfl (by omega) (by decide) rfl ?_
    refine r_aload_n dX6_add_32 rfl ?_
    refine r_get dX6_add_33 fX6_36 rfl rfl ?_
    refine r_aload_n dX6_add_36 rfl ?_
    refine r_pc 37 rfl ?_
    refine r_get dX6_add_37 fX6_39 rfl rfl ?_
    refine r_iload dX6_add_40 rfl ?_
    refine r_iast (w2 := (cW _ _ _ _ _ _ _ _ _ _ _ _ _ _ _ _ _ _ _ _ _ _ _ _ _ _ _ _ _ _ _ _ _ _ _ _ _ _ _, _)) dX6_add_42 rfl rfl (by omega) (by decide) rfl ?_
    refine r_aload_n dX6_add_43 rfl ?_
    refine r_dup dX6_add_44 rfl ?_
    refine r_pc 45 rfl ?_
    refine r_get dX6_add_45 fX6_39 rfl rfl ?_
    refine r_iconst (v := (nI 1)) dX6_add_48 (by decide) ?_
    refine r_iaddN dX6_add_49 ?_
    refine r_put (w2 := (cW _ _ _ _ _ _ _ _ _ _ _ _ _ _ _ _ _ _ _ _ _ _ _ _ _ _ _ _ _ _ _ _ _ _ _ _ _ _ _, _)) dX6_add_50 fX6_39 rfl rfl (Nat.le_of_ble_eq_true rfl) (fun _ => rfl) (fun _ => rfl) rfl ?_
    refine r_iconst (v := (nI 1)) dX6_add_53 (by decide) ?_
    refine r_pc 54 rfl ?_
    exact r_zret dX6_add_54 rfl rfl rfl rfl
  · exact absurd h7 (by omega)
theorem s_addW0 {q : Int64} {x y : Int32} : Sem mX6_add 1 0 0 [.ref 21, .long q, .int x, .int y] (cW tb tl tc tn fc ff fs ft fu fw fy fd dc dp dq dn dm ec ep eq en em ik lr ln ly wh wr wf wb (nI 250) gz wc ws wa pw pf pl ta, R) (some (.int (nI 0))) (cW tb tl tc tn fc ff fs ft fu fw fy fd dc dp dq dn dm ec ep eq en em ik lr ln ly wh wr wf wb (nI 250) gz wc ws wa pw pf pl ta, R) := by
  refine sem_of (by decide) (Nat.le_of_ble_eq_true rfl) rfl ?_
  refine r_aload_n dX6_add_0 rfl ?_
  refine r_get dX6_add_1 fX6_39 rfl rfl ?_
  refine r_sipush (v := (nI 250)) dX6_add_4 (by decide) ?_
  refine r_icmp_ltN 12 dX6_add_7 (by decide) (by omega) (by omega) (fun h7 => ?_) (fun h7 => ?_)
  · exact absurd h7 (by decide)
  · refine r_pc 10 rfl ?_
    refine r_iconst (v := (nI 0)) dX6_add_10 (by decide) ?_
    exact r_zret dX6_add_11 rfl rfl rfl rfl
theorem s_trace {k x : Nat} (hb : Bw wr wf wb l) (hs : Bs l) (hk : k < l.length) : Sem mX6_trace 1 0 0 [.ref 21, .int (nI k), .int (nI x)] (cW tb tl tc tn fc ff fs ft fu fw fy fd dc dp dq dn dm ec ep eq en em ik lr ln ly wh wr wf wb wn gz wc ws wa pw pf pl ta, R) (some (.int (nI ((pthL l 250 k).length + 1)))) (cW tb tl tc tn fc ff fs ft fu fw fy fd dc dp dq dn dm ec ep eq en em ik lr ln ly wh wr wf wb wn gz (putL wc (pthL l 250 k ++ [x])) ws wa pw pf pl ta, R) := by
  refine sem_of (by decide) (Nat.le_of_ble_eq_true rfl) rfl ?_
  have hl := hs.2.1
  have hdk := pthL_len hs k k (Nat.le_refl _) hk
  generalize hw0 : (cW tb tl tc tn fc ff fs ft fu fw fy fd dc dp dq dn dm ec ep eq en em ik lr ln ly wh wr wf wb wn gz wc ws wa pw pf pl ta, R) = w0
  generalize hD : (pthL l 250 k).length = D at hdk ⊢
  have hfl : (pthL l 250 k ++ [x]).length = D + 1 := by simp [hD]
  have L2 : ∀ (m i p : Nat) (wcc : Nat → Int32), i ≤ m → i < l.length → p = (pthL l 250 i).length → (∃ rest, pthL l 250 k ++ [x] = pthL l 250 i ++ rest) → p ≤ 249 → (∀ j, p ≤ j → wcc j = putL wc (pthL l 250 k ++ [x]) j) → Rn mX6_trace 1 0 0 w0 (some (.int (nI (D + 1)))) (cW tb tl tc tn fc ff fs ft fu fw fy fd dc dp dq dn dm ec ep eq en em ik lr ln ly wh wr wf wb wn gz (putL wc (pthL l 250 k ++ [x])) ws wa pw pf pl ta, R) 0 0 48 [some (.ref 21), some (.int (nI k)), some (.int (nI x)), some (.int (nI (D + 1))), some (.int (nI p)), some (.int (nI i))] [] (cW tb tl tc tn fc ff fs ft fu fw fy fd dc dp dq dn dm ec ep eq en em ik lr ln ly wh wr wf wb wn gz (wcc) ws wa pw pf pl ta, R) := by
    intro m
    induction m with
    | zero =>
      intro i p wcc him hil hp hr hp9 hwc
      have : i = 0 := by omega
      subst this
      have hp0 : p = 0 := by rw [hp]; simp [pthL]
      subst hp0
      refine r_weq _ (weq_wc (fun j _ => hwc j (Nat.zero_le _))) ?_
      refine r_iload dX6_trace_48 rfl ?_
      refine r_if_le 87 dX6_trace_50 (by decide) (fun h50 => ?_) (fun h50 => ?_)
      · refine r_pc 87 rfl ?_
        refine r_iload_n dX6_trace_87 rfl ?_
        exact r_iret dX6_trace_88 rfl rfl rfl
      · exact absurd (by decide) h50
    | succ m ih =>
      intro i p wcc him hil hp hr hp9 hwc
      by_cases hi : i = 0
      · subst hi
        have hp0 : p = 0 := by rw [hp]; simp [pthL]
        subst hp0
        refine r_weq _ (weq_wc (fun j _ => hwc j (Nat.zero_le _))) ?_
        refine r_iload dX6_trace_48 rfl ?_
        refine r_if_le 87 dX6_trace_50 (by decide) (fun h50 => ?_) (fun h50 => ?_)
        · refine r_pc 87 rfl ?_
          refine r_iload_n dX6_trace_87 rfl ?_
          exact r_iret dX6_trace_88 rfl rfl rfl
        · exact absurd (by decide) h50
      · have hx : l[i]? = some l[i] := List.getElem?_eq_getElem hil
        obtain ⟨c1, c2⟩ := hs.2.2 i _ hx
        have c1 := c1 (by omega)
        obtain ⟨b1, b2, b3⟩ := hb i _ hx
        have hst := pthL_step hs (by omega) hx
        have hp1 : p = (pthL l 250 l[i].2.1).length + 1 := by rw [hp, hst]; simp
        obtain ⟨rest, hr⟩ := hr
        have hr2 : pthL l 250 k ++ [x] = pthL l 250 l[i].2.1 ++ ([l[i].2.2] ++ rest) := by rw [hr, hst, List.append_assoc]
        have hat : putL wc (pthL l 250 k ++ [x]) (p - 1) = nI l[i].2.2 := by
          unfold putL
          rw [hr2, List.getElem?_append_right (by omega), show p - 1 - (pthL l 250 l[i].2.1).length = 0 by omega]
          rfl
        obtain ⟨p0, rfl⟩ : ∃ p0, p = p0 + 1 := ⟨p - 1, by omega⟩
        have ih := ih l[i].2.1 p0 (upd wcc p0 (nI l[i].2.2)) (by omega) (by omega) (by omega) ⟨_, hr2⟩ (by omega) (fun j hj => by
          by_cases e : j = p0
          · subst e
            rw [pk_us]
            exact hat.symm
          · rw [pk_un e]
            exact hwc j (by omega))
        refine r_iload dX6_trace_48 rfl ?_
        refine r_if_le 87 dX6_trace_50 (by decide) (fun h50 => ?_) (fun h50 => ?_)
        · exact absurd h50 (nI_pos3 (by omega) (by omega))
        · refine r_pc 53 rfl ?_
          refine r_iload dX6_trace_53 rfl ?_
          refine r_if_le 87 dX6_trace_55 (by decide) (fun h55 => ?_) (fun h55 => ?_)
          · exact absurd h55 (nI_pos3 (by omega) (by omega))
          · refine r_pc 58 rfl ?_
            refine r_iinc (ls' := [_, _, _, _, _, _]) dX6_trace_58 (by decide) rfl (show nI (p0 + 1) + Int32.ofInt (-1) = nI p0 from pk_m1 p0) rfl ?_
            refine r_aload_n dX6_trace_61 rfl ?_
            refine r_get dX6_trace_62 fX6_43 rfl rfl ?_
            refine r_iload dX6_trace_65 rfl ?_
            refine r_aload_n dX6_trace_67 rfl ?_
            refine r_pc 68 rfl ?_
            refine r_get dX6_trace_68 fX6_36 rfl rfl ?_
            refine r_iload dX6_trace_71 rfl ?_
            refine r_iald dX6_trace_73 rfl rfl (by omega) (by decide) ?_
            refine r_topi _ b3 ?_
            refine r_iast (w2 := (cW _ _ _ _ _ _ _ _ _ _ _ _ _ _ _ _ _ _ _ _ _ _ _ _ _ _ _ _ _ _ _ _ _ _ _ _ _ _ _, _)) dX6_trace_74 rfl rfl (by omega) (by decide) rfl ?_
            refine r_aload_n dX6_trace_75 rfl ?_
            refine r_pc 76 rfl ?_
            refine r_get dX6_trace_76 fX6_32 rfl rfl ?_
            refine r_iload dX6_trace_79 rfl ?_
            refine r_iald dX6_trace_81 rfl rfl (by omega) (by decide) ?_
            refine r_topi _ b2 ?_
            refine r_istore (ls' := [_, _, _, _, _, _]) dX6_trace_82 (by decide) rfl ?_
            refine r_goto 48 dX6_trace_84 (by decide) ?_
            refine r_pc 48 rfl ?_
            exact ih
  have L1 : ∀ (m i n : Nat), i ≤ m → i < l.length → n + (pthL l 250 i).length = D + 1 → Rn mX6_trace 1 0 0 w0 (some (.int (nI (D + 1)))) (cW tb tl tc tn fc ff fs ft fu fw fy fd dc dp dq dn dm ec ep eq en em ik lr ln ly wh wr wf wb wn gz (putL wc (pthL l 250 k ++ [x])) ws wa pw pf pl ta, R) 0 0 5 [some (.ref 21), some (.int (nI k)), some (.int (nI x)), some (.int (nI n)), some (.int (nI i)), none] [] (cW tb tl tc tn fc ff fs ft fu fw fy fd dc dp dq dn dm ec ep eq en em ik lr ln ly wh wr wf wb wn gz wc ws wa pw pf pl ta, R) := by
    intro m
    have fin : ∀ (n : Nat), n = D + 1 → Rn mX6_trace 1 0 0 w0 (some (.int (nI (D + 1)))) (cW tb tl tc tn fc ff fs ft fu fw fy fd dc dp dq dn dm ec ep eq en em ik lr ln ly wh wr wf wb wn gz (putL wc (pthL l 250 k ++ [x])) ws wa pw pf pl ta, R) 0 0 32 [some (.ref 21), some (.int (nI k)), some (.int (nI x)), some (.int (nI n)), some (.int (nI 0)), none] [] (cW tb tl tc tn fc ff fs ft fu fw fy fd dc dp dq dn dm ec ep eq en em ik lr ln ly wh wr wf wb wn gz wc ws wa pw pf pl ta, R) := by
      intro n hn
      subst hn
      have L2 := L2 k k D (upd wc D (nI x)) (Nat.le_refl _) hk hD.symm ⟨[x], rfl⟩ (by omega) (fun j hj => by
        by_cases e : j = D
        · subst e
          rw [pk_us]
          unfold putL
          rw [List.getElem?_append_right (by omega), hD, Nat.sub_self]
          rfl
        · rw [pk_un e]
          unfold putL
          rw [List.getElem?_eq_none (by omega)])
      refine r_iload_n dX6_trace_32 rfl ?_
      refine r_iconst (v := (nI 1)) dX6_trace_33 (by decide) ?_
      refine r_isubN dX6_trace_34 (by omega) ?_
      rw [Nat.add_sub_cancel]
      refine r_istore (ls' := [_, _, _, _, _, _]) dX6_trace_35 (by decide) rfl ?_
      refine r_aload_n dX6_trace_37 rfl ?_
      refine r_pc 38 rfl ?_
      refine r_get dX6_trace_38 fX6_43 rfl rfl ?_
      refine r_iload dX6_trace_41 rfl ?_
      refine r_iload_n dX6_trace_43 rfl ?_
      refine r_iast (w2 := (cW _ _ _ _ _ _ _ _ _ _ _ _ _ _ _ _ _ _ _ _ _ _ _ _ _ _ _ _ _ _ _ _ _ _ _ _ _ _ _, _)) dX6_trace_44 rfl rfl (by omega) (by decide) rfl ?_
      refine r_iload_n dX6_trace_45 rfl ?_
      refine r_pc 46 rfl ?_
      refine r_istore (ls' := [_, _, _, _, _, _]) dX6_trace_46 (by decide) rfl ?_
      refine r_pc 48 rfl ?_
      exact L2
    induction m with
    | zero =>
      intro i n him hil hn
      have : i = 0 := by omega
      subst this
      have hn1 : n = D + 1 := by simpa [pthL] using hn
      refine r_iload dX6_trace_5 rfl ?_
      refine r_if_le 32 dX6_trace_7 (by decide) (fun h7 => ?_) (fun h7 => ?_)
      · refine r_pc 32 rfl ?_
        refine r_pc 32 rfl ?_
        exact fin n hn1
      · exact absurd (by decide) h7
    | succ m ih =>
      intro i n him hil hn
      by_cases hi : i = 0
      · subst hi
        have hn1 : n = D + 1 := by simpa [pthL] using hn
        refine r_iload dX6_trace_5 rfl ?_
        refine r_if_le 32 dX6_trace_7 (by decide) (fun h7 => ?_) (fun h7 => ?_)
        · refine r_pc 32 rfl ?_
          refine r_pc 32 rfl ?_
          exact fin n hn1
        · exact absurd (by decide) h7
      · have hx : l[i]? = some l[i] := List.getElem?_eq_getElem hil
        obtain ⟨c1, c2⟩ := hs.2.2 i _ hx
        have c1 := c1 (by omega)
        obtain ⟨b1, b2, b3⟩ := hb i _ hx
        have hst := pthL_step hs (by omega) hx
        rw [hst, List.length_append] at hn
        simp at hn
        have ih := ih l[i].2.1 (n + 1) (by omega) (by omega) (by omega)
        refine r_iload dX6_trace_5 rfl ?_
        refine r_if_le 32 dX6_trace_7 (by decide) (fun h7 => ?_) (fun h7 => ?_)
        · exact absurd h7 (nI_pos3 (by omega) (by omega))
        · refine r_pc 10 rfl ?_
          refine r_iload_n dX6_trace_10 rfl ?_
          refine r_sipush (v := (nI 250)) dX6_trace_11 (by decide) ?_
          refine r_icmp_geN 32 dX6_trace_14 (by decide) (by omega) (by omega) (fun h14 => ?_) (fun h14 => ?_)
          · exact absurd h14 (by omega)
          · refine r_pc 17 rfl ?_
            refine r_inc1 (ls' := [_, _, _, _, _, _]) dX6_trace_17 (by decide) rfl rfl ?_
            refine r_aload_n dX6_trace_20 rfl ?_
            refine r_get dX6_trace_21 fX6_32 rfl rfl ?_
            refine r_iload dX6_trace_24 rfl ?_
            refine r_iald dX6_trace_26 rfl rfl (by omega) (by decide) ?_
            refine r_pc 27 rfl ?_
            refine r_topi _ b2 ?_
            refine r_istore (ls' := [_, _, _, _, _, _]) dX6_trace_27 (by decide) rfl ?_
            refine r_goto 5 dX6_trace_29 (by decide) ?_
            refine r_pc 5 rfl ?_
            exact ih
  subst hw0
  refine r_iconst (v := (nI 1)) dX6_trace_0 (by decide) ?_
  refine r_istore_n (ls' := [_, _, _, _, _, _]) dX6_trace_1 (by decide) rfl ?_
  refine r_iload_n dX6_trace_2 rfl ?_
  refine r_istore (ls' := [_, _, _, _, _, _]) dX6_trace_3 (by decide) rfl ?_
  refine r_pc 5 rfl ?_
  exact L1 k k 1 (Nat.le_refl _) hk (by rw [hD]; omega)
end W1
