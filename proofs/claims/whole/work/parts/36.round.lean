/-- the number of a call among the 108 -/
def cnr (x : Nat) : Nat := 12 * (x / 100) + x % 100
theorem nxC_at {q : Int64} {x : Nat} (hx : x / 100 < 9 ∧ x % 100 < 12) : nxC q (cnr x) = (match POK (sqc q) (sqf q) (x / 100) (x % 100) with
  | true => some (pkI (fun j => stI (PT (sqc q) (sqf q) (x / 100) (x % 100) j)) (fun j => nI (PU (sqc q) (sqf q) (x / 100) (x % 100) j)) 8)
  | false => none) := by
  have e1 : cnr x / 12 = x / 100 := by unfold cnr; omega
  have e2 : cnr x % 12 = x % 100 := by unfold cnr; omega
  unfold nxC
  rw [e1, e2]
  cases POK (sqc q) (sqf q) (x / 100) (x % 100) <;> rfl
theorem cnr_lt {x : Nat} (hx : x / 100 < 9 ∧ x % 100 < 12) : cnr x < 108 := by unfold cnr; omega
/-- a row of calls danced in thought -/
def rgo (q : Int64) : List Nat → Option Int64
  | [] => some q
  | x :: t => match nxC q (cnr x) with
    | none => none
    | some q' => rgo q' t
def rnd (l : List Nat) (q0 : Int64) : Nat → Nat → Int64 → Int32
  | 0, _, _ => -2
  | m + 1, k, q => match rgo q l with
    | none => -2
    | some q' => if q' = q0 then nI k else rnd l q0 m (k + 1) q'
theorem rgo_V (hV : NXV) : ∀ (l : List Nat) (q q' : Int64), Vq q → (∀ x ∈ l, x / 100 < 9 ∧ x % 100 < 12) → rgo q l = some q' → Vq q'
  | [], q, q', h, _, e => by cases e; exact h
  | x :: t, q, q', h, hc, e => by
    unfold rgo at e
    cases hx : nxC q (cnr x) with
    | none => rw [hx] at e; cases e
    | some q1 =>
      rw [hx] at e
      exact rgo_V hV t q1 q' (hV q _ q1 h (cnr_lt (hc x List.mem_cons_self)) hx) (fun y hy => hc y (List.mem_cons_of_mem _ hy)) e
section C7
variable {tb : Nat → Int32} {tl : Int32} {tc : Nat → Int32} {tn : Int32} {fc ff fs ft fu fw : Nat → Int32} {fy fd : Int32} {dc : Nat → Int32} {dp dq : Nat → Int64} {dn dm : Int32} {ec : Nat → Int32} {ep eq : Nat → Int64} {en em ik : Int32} {lr : Nat → Int32} {ln ly : Int32} {wh : Int64} {wr : Nat → Int64} {wf wb : Nat → Int32} {wn : Int32} {gz : G8} {wc : Nat → Int32} {ws : Int64} {wa pw pf pl : Int32} {ta : Nat → Int32}
variable {R : List AE}
theorem s_thought (hV : NXV) {l : List Nat} {q : Int64} (hq : Vq q) (hl : l.length ≤ 120) (hc : ∀ x ∈ l, x / 100 < 9 ∧ x % 100 < 12) : SemP mX8_danceInThought 7 0 0 [.ref 0] (cW tb tl (putL tc l) (nI l.length) (fun j => nI (sqc q j)) (fun j => nI (sqf q j)) (fun x => stI (who (sqc q) 8 x)) ft fu fw fy fd dc dp dq dn dm ec ep eq en em ik lr ln ly wh wr wf wb wn gz wc ws wa pw pf pl ta, R) (fun r w' => ∃ (fc ff fs ft fu fw : Nat → Int32) (fy fd : Int32), w' = (cW tb tl (putL tc l) (nI l.length) fc ff fs ft fu fw fy fd dc dp dq dn dm ec ep eq en em ik lr ln ly wh wr wf wb wn gz wc ws wa pw pf pl ta, R) ∧ match rgo q l with
    | none => r = some (.int (nI 0))
    | some q' => r = some (.int (nI 1)) ∧ fc = (fun j => nI (sqc q' j)) ∧ ff = (fun j => nI (sqf q' j)) ∧ fs = (fun x => stI (who (sqc q') 8 x))) := by
  refine semP_of (by decide) (Nat.le_of_ble_eq_true rfl) rfl ?_
  generalize hw0 : (cW tb tl (putL tc l) (nI l.length) (fun j => nI (sqc q j)) (fun j => nI (sqf q j)) (fun x => stI (who (sqc q) 8 x)) ft fu fw fy fd dc dp dq dn dm ec ep eq en em ik lr ln ly wh wr wf wb wn gz wc ws wa pw pf pl ta, R) = w0
  have Lp : ∀ (t : List Nat) (i : Nat) (q1 : Int64) (ft fu fw : Nat → Int32) (fy fd : Int32), i + t.length = l.length → t = l.drop i → Vq q1 → rgo q l = rgo q1 t → Rp mX8_danceInThought 7 0 0 w0 (fun r w' => ∃ (fc ff fs ft fu fw : Nat → Int32) (fy fd : Int32), w' = (cW tb tl (putL tc l) (nI l.length) fc ff fs ft fu fw fy fd dc dp dq dn dm ec ep eq en em ik lr ln ly wh wr wf wb wn gz wc ws wa pw pf pl ta, R) ∧ match rgo q l with
    | none => r = some (.int (nI 0))
    | some q' => r = some (.int (nI 1)) ∧ fc = (fun j => nI (sqc q' j)) ∧ ff = (fun j => nI (sqf q' j)) ∧ fs = (fun x => stI (who (sqc q') 8 x))) 0 0 2 [some (.ref 0), some (.int (nI i))] [] (cW tb tl (putL tc l) (nI l.length) (fun j => nI (sqc q1 j)) (fun j => nI (sqf q1 j)) (fun x => stI (who (sqc q1) 8 x)) ft fu fw fy fd dc dp dq dn dm ec ep eq en em ik lr ln ly wh wr wf wb wn gz wc ws wa pw pf pl ta, R) := by
    intro t
    induction t with
    | nil =>
      intro i q1 ft fu fw fy fd hi ht hq1 he
      have hi : i = l.length := by simpa using hi
      refine r_iload_n dX8_danceInThought_2 rfl ?_
      refine r_aload_n dX8_danceInThought_3 rfl ?_
      refine r_get dX8_danceInThought_4 fX8_12 rfl rfl ?_
      refine r_get dX8_danceInThought_7 fX8_77 rfl rfl ?_
      refine r_icmp_geN 53 dX8_danceInThought_10 (by decide) (by omega) (by omega) (fun h10 => ?_) (fun h10 => ?_)
      · refine r_pc 53 rfl ?_
        refine r_iconst (v := (nI 1)) dX8_danceInThought_53 (by decide) ?_
        exact r_zretP dX8_danceInThought_54 rfl rfl ⟨_, _, _, _, _, _, _, _, rfl, by rw [he]; exact ⟨rfl, rfl, rfl, rfl⟩⟩
      · exact absurd h10 (by omega)
    | cons x t ih =>
      intro i q1 ft fu fw fy fd hi ht hq1 he
      rw [List.length_cons] at hi
      have hil : i < l.length := by omega
      have hx : l.getD i 0 = x := by
        have : l[i]? = some x := by rw [← List.head?_drop, ← ht]; rfl
        rw [List.getD_eq_getElem?_getD, this]; rfl
      have hcx := hc _ (getD_mem hil)
      rw [hx] at hcx
      have e0 : putL tc l i = nI (100 * (x / 100) + x % 100) := by rw [putL_at tc hil, hx, ← code_eq]
      have hnx := nxC_at (q := q1) hcx
      rw [show rgo q1 (x :: t) = (match nxC q1 (cnr x) with | none => none | some q' => rgo q' t) from rfl] at he
      cases ho : POK (sqc q1) (sqf q1) (x / 100) (x % 100) with
      | false =>
        rw [ho] at hnx
        dsimp only at hnx
        rw [hnx] at he
        refine r_iload_n dX8_danceInThought_2 rfl ?_
        refine r_aload_n dX8_danceInThought_3 rfl ?_
        refine r_get dX8_danceInThought_4 fX8_12 rfl rfl ?_
        refine r_get dX8_danceInThought_7 fX8_77 rfl rfl ?_
        refine r_icmp_geN 53 dX8_danceInThought_10 (by decide) (by omega) (by omega) (fun h10 => ?_) (fun h10 => ?_)
        · exact absurd h10 (by omega)
        · refine r_pc 13 rfl ?_
          refine r_aload_n dX8_danceInThought_13 rfl ?_
          refine r_get dX8_danceInThought_14 fX8_19 rfl rfl ?_
          refine r_aload_n dX8_danceInThought_17 rfl ?_
          refine r_get dX8_danceInThought_18 fX8_12 rfl rfl ?_
          refine r_iload_n dX8_danceInThought_21 rfl ?_
          refine r_pc 22 rfl ?_
          refine r_cV dX8_danceInThought_22 (s_codeAtT hl hil) lX8_83 rfl rfl rfl (by decide) ⟨Nat.le_refl _, Nat.le_refl _⟩ (Nat.le_of_ble_eq_true rfl) ?_
          refine r_topi _ e0 ?_
          refine r_cV dX8_danceInThought_25 (s_plan hcx.1 hcx.2 (Sq_load _) (Sd_load _) hq1.1) lX8_95 rfl rfl rfl (by decide) ⟨Nat.le_refl _, Nat.le_refl _⟩ (Nat.le_of_ble_eq_true rfl) ?_
          rw [ho]
          refine r_if_ne 33 dX8_danceInThought_28 (by decide) (fun h28 => ?_) (fun h28 => ?_)
          · exact absurd rfl h28
          · refine r_pc 31 rfl ?_
            refine r_iconst (v := (nI 0)) dX8_danceInThought_31 (by decide) ?_
            exact r_zretP dX8_danceInThought_32 rfl rfl ⟨_, _, _, _, _, _, _, _, rfl, by rw [he]⟩
      | true =>
        rw [ho] at hnx
        dsimp only at hnx
        have hV1 := hV _ _ _ hq1 (cnr_lt hcx) hnx
        rw [hnx] at he
        dsimp only at he
        have ih := fun ft fu fw fy fd => ih (i + 1) _ ft fu fw fy fd (by omega) (by rw [← List.drop_drop, ← ht]; rfl) hV1 he
        refine r_iload_n dX8_danceInThought_2 rfl ?_
        refine r_aload_n dX8_danceInThought_3 rfl ?_
        refine r_get dX8_danceInThought_4 fX8_12 rfl rfl ?_
        refine r_get dX8_danceInThought_7 fX8_77 rfl rfl ?_
        refine r_icmp_geN 53 dX8_danceInThought_10 (by decide) (by omega) (by omega) (fun h10 => ?_) (fun h10 => ?_)
        · exact absurd h10 (by omega)
        · refine r_pc 13 rfl ?_
          refine r_aload_n dX8_danceInThought_13 rfl ?_
          refine r_get dX8_danceInThought_14 fX8_19 rfl rfl ?_
          refine r_aload_n dX8_danceInThought_17 rfl ?_
          refine r_get dX8_danceInThought_18 fX8_12 rfl rfl ?_
          refine r_iload_n dX8_danceInThought_21 rfl ?_
          refine r_pc 22 rfl ?_
          refine r_cV dX8_danceInThought_22 (s_codeAtT hl hil) lX8_83 rfl rfl rfl (by decide) ⟨Nat.le_refl _, Nat.le_refl _⟩ (Nat.le_of_ble_eq_true rfl) ?_
          refine r_topi _ e0 ?_
          refine r_cV dX8_danceInThought_25 (s_plan hcx.1 hcx.2 (Sq_load _) (Sd_load _) hq1.1) lX8_95 rfl rfl rfl (by decide) ⟨Nat.le_refl _, Nat.le_refl _⟩ (Nat.le_of_ble_eq_true rfl) ?_
          rw [ho]
          refine r_if_ne 33 dX8_danceInThought_28 (by decide) (fun h28 => ?_) (fun h28 => ?_)
          · refine r_pc 33 rfl ?_
            refine r_aload_n dX8_danceInThought_33 rfl ?_
            refine r_get dX8_danceInThought_34 fX8_19 rfl rfl ?_
            refine r_aload_n dX8_danceInThought_37 rfl ?_
            refine r_get dX8_danceInThought_38 fX8_19 rfl rfl ?_
            refine r_cV dX8_danceInThought_41 s_planned lX8_102 rfl rfl rfl (by decide) ⟨Nat.le_refl _, Nat.le_refl _⟩ (Nat.le_of_ble_eq_true rfl) ?_
            refine r_pc 44 rfl ?_
            refine r_cVv dX8_danceInThought_44 (s_load _) lX8_91 rfl rfl rfl (by decide) ⟨Nat.le_refl _, Nat.le_refl _⟩ (Nat.le_of_ble_eq_true rfl) ?_
            refine r_inc1 (ls' := [_, _]) dX8_danceInThought_47 (by decide) rfl rfl ?_
            refine r_goto 2 dX8_danceInThought_50 (by decide) ?_
            refine r_pc 2 rfl ?_
            exact ih _ _ _ _ _
          · exact absurd h28 (by decide)
  subst hw0
  refine r_iconst (v := (nI 0)) dX8_danceInThought_0 (by decide) ?_
  refine r_istore_n (ls' := [_, _]) dX8_danceInThought_1 (by decide) rfl ?_
  refine r_pc 2 rfl ?_
  exact Lp l 0 q _ _ _ _ _ (Nat.zero_add _) rfl hq rfl
end C7
section C8
variable {R : List AE} {w : WD} {L : Nat} {b : Nat → Nat} {n m : Nat} {cd : Nat → Nat} {Q : Nat → Int64} {ik : Bool} {kn : Nat} {kc : Nat → Nat} {kQ : Nat → Int64} {fn : Nat} {fr : Nat → Int32} {fz : Int32} {tal : Nat → Int32}
theorem c_round_f {x : Nat} (hC : CI L b n m cd Q ik kn kc kQ fn fr fz tal R w) (h : (tx b L).1 = some x) (hx : x < 2 ^ 31) : SemP mX8_round 10 0 0 [.ref 0] w (Top (-100 - nI x) (CI (0) b n m cd Q ik kn kc kQ fn fr fz tal R)) := by
  obtain ⟨tb, tc, tn, fc, ff, fs, ft, fu, fw, fy, fd, dc, dp, dq, ec, ep, eq, em, lr, wr, wf, wb, wn, gz, wc, ws, wa, pw, pf, pl, ta, rfl, ⟨s1, s2, s3, s4, s5, s6⟩, hB, hdc, hdp, hec, hep, hlr, hta, hwo⟩ := hC
  have hn : n ≤ 200 := Nat.le_trans s3 s4.1
  have hm : m ≤ 200 := s4.1
  have hkn : kn ≤ 200 := s5.1
  have hQn : dp n = Q n := hdp n s3
  have hVn : Vq (Q n) := s4.2.2.1 n s3
  have hBy : By tb L b := ⟨s1, fun j hj => ⟨hB j hj, s2 j hj⟩⟩
  refine semP_of (by decide) (Nat.le_of_ble_eq_true rfl) rfl ?_
  refine r_aload_n dX8_round_0 rfl ?_
  refine r_get dX8_round_1 fX8_12 rfl rfl ?_
  refine r_cV dX8_round_4 (s_take hBy) lX8_70 rfl rfl rfl (by decide) ⟨Nat.le_refl _, Nat.le_refl _⟩ (Nat.le_of_ble_eq_true rfl) ?_
  rw [show (rtx b L 121 0 []).1 = some x from h]
  refine r_istore_n (ls' := [_, _, _, _, _]) dX8_round_7 (by decide) rfl ?_
  refine r_iload_n dX8_round_8 rfl ?_
  refine r_pc 9 rfl ?_
  refine r_iconst (v := (-1)) dX8_round_9 (by decide) ?_
  refine r_icmp_eq 18 dX8_round_10 (by decide) (fun h10 => ?_) (fun h10 => ?_)
  · exact absurd h10 (nI_m1 hx)
  · refine r_pc 13 rfl ?_
    refine r_bipush (v := (-100)) dX8_round_13 (by decide) ?_
    refine r_iload_n dX8_round_15 rfl ?_
    refine r_isub dX8_round_16 ?_
    exact r_iretP dX8_round_17 rfl ⟨rfl, _, _, _, _, _, _, _, _, _, _, _, _, _, _, _, _, _, _, _, _, _, _, _, _, _, _, _, _, _, _, _, rfl, ⟨⟨Nat.zero_le _, (fun j h => absurd h (Nat.not_lt_zero _)), s3, s4, s5, s6⟩, (fun j h => absurd h (Nat.not_lt_zero _)), hdc, hdp, hec, hep, hlr, hta, hwo⟩⟩
theorem c_round_1 (hV : NXV) (hC : CI L b n m cd Q ik kn kc kQ fn fr fz tal R w) (h : (tx b L).1 = none) : SemP mX8_round 10 0 0 [.ref 0] w (Top (rnd (tx b L).2 (Q n) 100 1 (Q n)) (CI (0) b n m cd Q ik kn kc kQ fn fr fz tal R)) := by
  obtain ⟨tb, tc, tn, fc, ff, fs, ft, fu, fw, fy, fd, dc, dp, dq, ec, ep, eq, em, lr, wr, wf, wb, wn, gz, wc, ws, wa, pw, pf, pl, ta, rfl, ⟨s1, s2, s3, s4, s5, s6⟩, hB, hdc, hdp, hec, hep, hlr, hta, hwo⟩ := hC
  have hn : n ≤ 200 := Nat.le_trans s3 s4.1
  have hm : m ≤ 200 := s4.1
  have hkn : kn ≤ 200 := s5.1
  have hQn : dp n = Q n := hdp n s3
  have hVn : Vq (Q n) := s4.2.2.1 n s3
  have hBy : By tb L b := ⟨s1, fun j hj => ⟨hB j hj, s2 j hj⟩⟩
  refine semP_of (by decide) (Nat.le_of_ble_eq_true rfl) rfl ?_
  obtain ⟨t1, t2, t3⟩ := tx_ok s1 h
  have hr : (rtx b L 121 0 []).1 = none := h
  generalize hlt : (tx b L).2 = l at t1 t2 t3
  have hl2 : (rtx b L 121 0 []).2 = l := hlt
  generalize hw0 : (cW tb (nI L) tc tn fc ff fs ft fu fw fy fd dc dp dq (nI n) (nI m) ec ep eq (nI kn) em (bI ik) lr (nI fn) (fz) (homeP) wr wf wb wn gz wc ws wa pw pf pl ta, R) = w0
  have Lp : ∀ (m' k : Nat) (q : Int64) (ft fu fw : Nat → Int32) (fy fd : Int32), k + m' = 101 → Vq q → Rp mX8_round 10 0 0 w0 (Top (rnd l (Q n) m' k q) (CI (0) b n m cd Q ik kn kc kQ fn fr fz tal R)) 0 0 37 [some (.ref 0), some (.int (-1)), some (.long (Q n)), none, some (.int (nI k))] [] (cW tb (nI 0) (putL tc l) (nI l.length) (fun j => nI (sqc q j)) (fun j => nI (sqf q j)) (fun x => stI (who (sqc q) 8 x)) ft fu fw fy fd dc dp dq (nI n) (nI m) ec ep eq (nI kn) em (bI ik) lr (nI fn) (fz) (homeP) wr wf wb wn gz wc ws wa pw pf pl ta, R) := by
    intro m'
    induction m' with
    | zero =>
      intro k q ft fu fw fy fd hk hq
      refine r_iload dX8_round_37 rfl ?_
      refine r_bipush (v := (nI 100)) dX8_round_39 (by decide) ?_
      refine r_icmp_gtN 75 dX8_round_41 (by decide) (by omega) (by omega) (fun h41 => ?_) (fun h41 => ?_)
      · refine r_pc 75 rfl ?_
        refine r_bipush (v := (-2)) dX8_round_75 (by decide) ?_
        exact r_iretP dX8_round_77 rfl ⟨rfl, _, _, _, _, _, _, _, _, _, _, _, _, _, _, _, _, _, _, _, _, _, _, _, _, _, _, _, _, _, _, _, rfl, ⟨⟨Nat.zero_le _, (fun j h => absurd h (Nat.not_lt_zero _)), s3, s4, s5, s6⟩, (fun j h => absurd h (Nat.not_lt_zero _)), hdc, hdp, hec, hep, hlr, hta, hwo⟩⟩
      · exact absurd h41 (by omega)
    | succ m' ih =>
      intro k q ft fu fw fy fd hk hq
      unfold rnd
      refine r_iload dX8_round_37 rfl ?_
      refine r_bipush (v := (nI 100)) dX8_round_39 (by decide) ?_
      refine r_pc 41 rfl ?_
      refine r_icmp_gtN 75 dX8_round_41 (by decide) (by omega) (by omega) (fun h41 => absurd h41 (by omega)) (fun h41 => ?_)
      refine r_aload_n dX8_round_44 rfl ?_
      refine r_pc 45 rfl ?_
      refine r_cVP dX8_round_45 (s_thought hV hq t1 t3) lX8_172 rfl rfl rfl (by decide) ⟨Nat.le_refl _, Nat.le_refl _⟩ (Nat.le_of_ble_eq_true rfl) (fun r w2 hp => ?_)
      obtain ⟨fc', ff', fs', ft', fu', fw', fy', fd', rfl, hp⟩ := hp
      cases hg : rgo q l with
      | none =>
        rw [hg] at hp
        dsimp only at hp
        subst hp
        dsimp only
        refine r_if_ne 54 dX8_round_48 (by decide) (fun h48 => ?_) (fun h48 => ?_)
        · exact absurd rfl h48
        · refine r_pc 51 rfl ?_
          refine r_bipush (v := (-2)) dX8_round_51 (by decide) ?_
          exact r_iretP dX8_round_53 rfl ⟨rfl, _, _, _, _, _, _, _, _, _, _, _, _, _, _, _, _, _, _, _, _, _, _, _, _, _, _, _, _, _, _, _, rfl, ⟨⟨Nat.zero_le _, (fun j h => absurd h (Nat.not_lt_zero _)), s3, s4, s5, s6⟩, (fun j h => absurd h (Nat.not_lt_zero _)), hdc, hdp, hec, hep, hlr, hta, hwo⟩⟩
      | some q' =>
        rw [hg] at hp
        dsimp only at hp
        obtain ⟨rfl, rfl, rfl, rfl⟩ := hp
        dsimp only
        have hq' := rgo_V hV l q q' hq t3 hg
        have hcan : pkI (fun j => nI (sqc q' j)) (fun j => nI (sqf q' j)) 8 = q' := hq'.2.symm
        by_cases e : q' = Q n
        · rw [if_pos e]
          refine r_if_ne 54 dX8_round_48 (by decide) (fun h48 => ?_) (fun h48 => ?_)
          · refine r_pc 54 rfl ?_
            refine r_aload_n dX8_round_54 rfl ?_
            refine r_get dX8_round_55 fX8_19 rfl rfl ?_
            refine r_cV dX8_round_58 s_packed lX8_175 rfl rfl rfl (by decide) ⟨Nat.le_refl _, Nat.le_refl _⟩ (Nat.le_of_ble_eq_true rfl) ?_
            rw [hcan]
            refine r_lload_n dX8_round_61 rfl ?_
            refine r_lcmp dX8_round_62 ?_
            refine r_pc 63 rfl ?_
            refine r_if_ne 69 dX8_round_63 (by decide) (fun h63 => ?_) (fun h63 => ?_)
            · exact absurd ((lg_cmp_eq _ _).mpr e) h63
            · refine r_pc 66 rfl ?_
              refine r_iload dX8_round_66 rfl ?_
              exact r_iretP dX8_round_68 rfl ⟨rfl, _, _, _, _, _, _, _, _, _, _, _, _, _, _, _, _, _, _, _, _, _, _, _, _, _, _, _, _, _, _, _, rfl, ⟨⟨Nat.zero_le _, (fun j h => absurd h (Nat.not_lt_zero _)), s3, s4, s5, s6⟩, (fun j h => absurd h (Nat.not_lt_zero _)), hdc, hdp, hec, hep, hlr, hta, hwo⟩⟩
          · exact absurd h48 (by decide)
        · rw [if_neg e]
          refine r_if_ne 54 dX8_round_48 (by decide) (fun h48 => ?_) (fun h48 => ?_)
          · refine r_pc 54 rfl ?_
            refine r_aload_n dX8_round_54 rfl ?_
            refine r_get dX8_round_55 fX8_19 rfl rfl ?_
            refine r_cV dX8_round_58 s_packed lX8_175 rfl rfl rfl (by decide) ⟨Nat.le_refl _, Nat.le_refl _⟩ (Nat.le_of_ble_eq_true rfl) ?_
            rw [hcan]
            refine r_lload_n dX8_round_61 rfl ?_
            refine r_lcmp dX8_round_62 ?_
            refine r_pc 63 rfl ?_
            refine r_if_ne 69 dX8_round_63 (by decide) (fun h63 => ?_) (fun h63 => ?_)
            · refine r_pc 69 rfl ?_
              refine r_inc1 (ls' := [_, _, _, _, _]) dX8_round_69 (by decide) rfl rfl ?_
              refine r_goto 37 dX8_round_72 (by decide) ?_
              refine r_pc 37 rfl ?_
              exact ih (k + 1) q' _ _ _ _ _ (by omega) hq'
            · exact absurd ((lg_cmp_eq _ _).mp h63) e
          · exact absurd h48 (by decide)
  subst hw0
  refine r_aload_n dX8_round_0 rfl ?_
  refine r_get dX8_round_1 fX8_12 rfl rfl ?_
  refine r_cV dX8_round_4 (s_take hBy) lX8_70 rfl rfl rfl (by decide) ⟨Nat.le_refl _, Nat.le_refl _⟩ (Nat.le_of_ble_eq_true rfl) ?_
  rw [hr, hl2]
  refine r_istore_n (ls' := [_, _, _, _, _]) dX8_round_7 (by decide) rfl ?_
  refine r_iload_n dX8_round_8 rfl ?_
  refine r_pc 9 rfl ?_
  refine r_iconst (v := (-1)) dX8_round_9 (by decide) ?_
  refine r_icmp_eq 18 dX8_round_10 (by decide) (fun h10 => ?_) (fun h10 => ?_)
  · refine r_pc 18 rfl ?_
    refine r_aload_n dX8_round_18 rfl ?_
    refine r_get dX8_round_19 fX8_26 rfl rfl ?_
    refine r_cV dX8_round_22 (s_latest hn) lX8_87 rfl rfl rfl (by decide) ⟨Nat.le_refl _, Nat.le_refl _⟩ (Nat.le_of_ble_eq_true rfl) ?_
    rw [hQn]
    refine r_lstore_n (ls' := [_, _, _, _, _]) dX8_round_25 (by decide) rfl ?_
    refine r_aload_n dX8_round_26 rfl ?_
    refine r_pc 27 rfl ?_
    refine r_get dX8_round_27 fX8_19 rfl rfl ?_
    refine r_lload_n dX8_round_30 rfl ?_
    refine r_cVv dX8_round_31 (s_load _) lX8_91 rfl rfl rfl (by decide) ⟨Nat.le_refl _, Nat.le_refl _⟩ (Nat.le_of_ble_eq_true rfl) ?_
    refine r_iconst (v := (nI 1)) dX8_round_34 (by decide) ?_
    refine r_istore (ls' := [_, _, _, _, _]) dX8_round_35 (by decide) rfl ?_
    refine r_pc 37 rfl ?_
    refine r_pc 37 rfl ?_
    exact Lp 100 1 (Q n) _ _ _ _ _ (by omega) hVn
  · exact absurd rfl h10
end C8
