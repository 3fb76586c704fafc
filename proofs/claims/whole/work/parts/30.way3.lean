theorem nI_m2 {x : Nat} (h : x < 2 ^ 31) : ¬ nI x = -2 := by
  intro q
  have h1 := nI_toInt h
  rw [q] at h1
  have h2 : ((-2 : Int32)).toInt = -2 := by decide
  omega
section W2
variable {tb : Nat → Int32} {tl : Int32} {tc : Nat → Int32} {tn : Int32} {fc ff fs ft fu fw : Nat → Int32} {fy fd : Int32} {dc : Nat → Int32} {dp dq : Nat → Int64} {dn dm : Int32} {ec : Nat → Int32} {ep eq : Nat → Int64} {en em ik : Int32} {lr : Nat → Int32} {ln ly : Int32} {wh : Int64} {wr : Nat → Int64} {wf wb : Nat → Int32} {wn : Int32} {gz : G8} {wc : Nat → Int32} {ws : Int64} {wa pw pf pl : Int32} {ta : Nat → Int32}
variable {R : List AE} {l : BL}
theorem s_comeH {k x : Nat} (hb : Bw wr wf wb l) (hs : Bs l) (hk : k < l.length) : Sem mX6_comeTo 2 0 0 [.ref 21, .long wh, .int (nI k), .int (nI x)] (cW tb tl tc tn fc ff fs ft fu fw fy fd dc dp dq dn dm ec ep eq en em ik lr ln ly wh wr wf wb wn gz wc ws wa pw pf pl ta, R) none (cW tb tl tc tn fc ff fs ft fu fw fy fd dc dp dq dn dm ec ep eq en em ik lr ln ly wh wr wf wb wn gz (putL wc (pthL l 250 k ++ [x])) ws (nI ((pthL l 250 k).length + 1)) pw pf pl ta, R) := by
  refine sem_of (by decide) (Nat.le_of_ble_eq_true rfl) rfl ?_
  refine r_lload_n dX6_comeTo_0 rfl ?_
  refine r_aload_n dX6_comeTo_1 rfl ?_
  refine r_get dX6_comeTo_2 fX6_24 rfl rfl ?_
  refine r_lcmp dX6_comeTo_5 ?_
  refine r_if_ne 23 dX6_comeTo_6 (by decide) (fun h6 => ?_) (fun h6 => ?_)
  · exact absurd ((lg_cmp_eq _ _).mpr rfl) h6
  · refine r_pc 9 rfl ?_
    refine r_aload_n dX6_comeTo_9 rfl ?_
    refine r_aload_n dX6_comeTo_10 rfl ?_
    refine r_iload_n dX6_comeTo_11 rfl ?_
    refine r_iload dX6_comeTo_12 rfl ?_
    refine r_cV dX6_comeTo_14 (s_trace hb hs hk) lX6_71 rfl rfl rfl (by decide) ⟨Nat.le_refl _, Nat.le_refl _⟩ (Nat.le_of_ble_eq_true rfl) ?_
    refine r_pc 17 rfl ?_
    refine r_put (w2 := (cW _ _ _ _ _ _ _ _ _ _ _ _ _ _ _ _ _ _ _ _ _ _ _ _ _ _ _ _ _ _ _ _ _ _ _ _ _ _ _, _)) dX6_comeTo_17 fX6_49 rfl rfl (Nat.le_of_ble_eq_true rfl) (fun _ => rfl) (fun _ => rfl) rfl ?_
    refine r_goto 55 dX6_comeTo_20 (by decide) ?_
    exact r_vret dX6_comeTo_55 rfl rfl rfl
theorem s_comeA {q : Int64} {x y : Int32} (hq : ¬ q = wh) (hb : Bw wr wf wb l) (hs : Bs l) (ha : amgL q l = true) : Sem mX6_comeTo 2 0 0 [.ref 21, .long q, .int x, .int y] (cW tb tl tc tn fc ff fs ft fu fw fy fd dc dp dq dn dm ec ep eq en em ik lr ln ly wh wr wf wb (nI l.length) gz wc ws wa pw pf pl ta, R) none (cW tb tl tc tn fc ff fs ft fu fw fy fd dc dp dq dn dm ec ep eq en em ik lr ln ly wh wr wf wb (nI l.length) gz wc ws wa pw pf pl ta, R) := by
  refine sem_of (by decide) (Nat.le_of_ble_eq_true rfl) rfl ?_
  have hl := hs.2.1
  rw [← amg_L hb] at ha
  refine r_lload_n dX6_comeTo_0 rfl ?_
  refine r_aload_n dX6_comeTo_1 rfl ?_
  refine r_get dX6_comeTo_2 fX6_24 rfl rfl ?_
  refine r_lcmp dX6_comeTo_5 ?_
  refine r_if_ne 23 dX6_comeTo_6 (by decide) (fun h6 => ?_) (fun h6 => ?_)
  · refine r_pc 23 rfl ?_
    refine r_lload_n dX6_comeTo_23 rfl ?_
    refine r_aload_n dX6_comeTo_24 rfl ?_
    refine r_get dX6_comeTo_25 fX6_28 rfl rfl ?_
    refine r_aload_n dX6_comeTo_28 rfl ?_
    refine r_get dX6_comeTo_29 fX6_39 rfl rfl ?_
    refine r_pc 32 rfl ?_
    refine r_cS dX6_comeTo_32 (s_isAmong _ (N := 250) rfl hl (by decide)) lX6_75 rfl rfl (by decide) ⟨Nat.le_refl _, Nat.le_refl _⟩ (Nat.le_of_ble_eq_true rfl) ?_
    rw [ha]
    refine r_if_ne 55 dX6_comeTo_35 (by decide) (fun h35 => ?_) (fun h35 => ?_)
    · refine r_pc 55 rfl ?_
      exact r_vret dX6_comeTo_55 rfl rfl rfl
    · exact absurd h35 (by decide)
  · exact absurd ((lg_cmp_eq _ _).mp h6) hq
theorem s_comeN {q : Int64} {x y : Int32} (hq : ¬ q = wh) (hb : Bw wr wf wb l) (ha : amgL q l = false) (hl : l.length < 250) : Sem mX6_comeTo 2 0 0 [.ref 21, .long q, .int x, .int y] (cW tb tl tc tn fc ff fs ft fu fw fy fd dc dp dq dn dm ec ep eq en em ik lr ln ly wh wr wf wb (nI l.length) gz wc ws wa pw pf pl ta, R) none (cW tb tl tc tn fc ff fs ft fu fw fy fd dc dp dq dn dm ec ep eq en em ik lr ln ly wh (vp_updL wr l.length q) (upd wf l.length x) (upd wb l.length y) (nI (l.length + 1)) gz wc ws wa pw pf pl ta, R) := by
  refine sem_of (by decide) (Nat.le_of_ble_eq_true rfl) rfl ?_
  rw [← amg_L hb] at ha
  refine r_lload_n dX6_comeTo_0 rfl ?_
  refine r_aload_n dX6_comeTo_1 rfl ?_
  refine r_get dX6_comeTo_2 fX6_24 rfl rfl ?_
  refine r_lcmp dX6_comeTo_5 ?_
  refine r_if_ne 23 dX6_comeTo_6 (by decide) (fun h6 => ?_) (fun h6 => ?_)
  · refine r_pc 23 rfl ?_
    refine r_lload_n dX6_comeTo_23 rfl ?_
    refine r_aload_n dX6_comeTo_24 rfl ?_
    refine r_get dX6_comeTo_25 fX6_28 rfl rfl ?_
    refine r_aload_n dX6_comeTo_28 rfl ?_
    refine r_get dX6_comeTo_29 fX6_39 rfl rfl ?_
    refine r_pc 32 rfl ?_
    refine r_cS dX6_comeTo_32 (s_isAmong _ (N := 250) rfl (by omega) (by decide)) lX6_75 rfl rfl (by decide) ⟨Nat.le_refl _, Nat.le_refl _⟩ (Nat.le_of_ble_eq_true rfl) ?_
    rw [ha]
    refine r_if_ne 55 dX6_comeTo_35 (by decide) (fun h35 => ?_) (fun h35 => ?_)
    · exact absurd rfl h35
    · refine r_pc 38 rfl ?_
      refine r_aload_n dX6_comeTo_38 rfl ?_
      refine r_lload_n dX6_comeTo_39 rfl ?_
      refine r_iload_n dX6_comeTo_40 rfl ?_
      refine r_iload dX6_comeTo_41 rfl ?_
      refine r_cV dX6_comeTo_43 (s_addW hl) lX6_52 rfl rfl rfl (by decide) ⟨Nat.le_refl _, Nat.le_refl _⟩ (Nat.le_of_ble_eq_true rfl) ?_
      refine r_pc 46 rfl ?_
      refine r_if_ne 55 dX6_comeTo_46 (by decide) (fun h46 => ?_) (fun h46 => ?_)
      · refine r_pc 55 rfl ?_
        exact r_vret dX6_comeTo_55 rfl rfl rfl
      · exact absurd h46 (by decide)
  · exact absurd ((lg_cmp_eq _ _).mp h6) hq
theorem s_comeL {q : Int64} {x y : Int32} (hq : ¬ q = wh) (hb : Bw wr wf wb l) (ha : amgL q l = false) (hl : l.length = 250) : Sem mX6_comeTo 2 0 0 [.ref 21, .long q, .int x, .int y] (cW tb tl tc tn fc ff fs ft fu fw fy fd dc dp dq dn dm ec ep eq en em ik lr ln ly wh wr wf wb (nI l.length) gz wc ws wa pw pf pl ta, R) none (cW tb tl tc tn fc ff fs ft fu fw fy fd dc dp dq dn dm ec ep eq en em ik lr ln ly wh wr wf wb (nI l.length) gz wc ws (-7) pw pf pl ta, R) := by
  refine sem_of (by decide) (Nat.le_of_ble_eq_true rfl) rfl ?_
  rw [← amg_L hb] at ha
  rw [hl] at ha ⊢
  refine r_lload_n dX6_comeTo_0 rfl ?_
  refine r_aload_n dX6_comeTo_1 rfl ?_
  refine r_get dX6_comeTo_2 fX6_24 rfl rfl ?_
  refine r_lcmp dX6_comeTo_5 ?_
  refine r_if_ne 23 dX6_comeTo_6 (by decide) (fun h6 => ?_) (fun h6 => ?_)
  · refine r_pc 23 rfl ?_
    refine r_lload_n dX6_comeTo_23 rfl ?_
    refine r_aload_n dX6_comeTo_24 rfl ?_
    refine r_get dX6_comeTo_25 fX6_28 rfl rfl ?_
    refine r_aload_n dX6_comeTo_28 rfl ?_
    refine r_get dX6_comeTo_29 fX6_39 rfl rfl ?_
    refine r_pc 32 rfl ?_
    refine r_cS dX6_comeTo_32 (s_isAmong _ (N := 250) rfl (by omega) (by decide)) lX6_75 rfl rfl (by decide) ⟨Nat.le_refl _, Nat.le_refl _⟩ (Nat.le_of_ble_eq_true rfl) ?_
    rw [ha]
    refine r_if_ne 55 dX6_comeTo_35 (by decide) (fun h35 => ?_) (fun h35 => ?_)
    · exact absurd rfl h35
    · refine r_pc 38 rfl ?_
      refine r_aload_n dX6_comeTo_38 rfl ?_
      refine r_lload_n dX6_comeTo_39 rfl ?_
      refine r_iload_n dX6_comeTo_40 rfl ?_
      refine r_iload dX6_comeTo_41 rfl ?_
      refine r_cV dX6_comeTo_43 s_addW0 lX6_52 rfl rfl rfl (by decide) ⟨Nat.le_refl _, Nat.le_refl _⟩ (Nat.le_of_ble_eq_true rfl) ?_
      refine r_pc 46 rfl ?_
      refine r_if_ne 55 dX6_comeTo_46 (by decide) (fun h46 => ?_) (fun h46 => ?_)
      · exact absurd rfl h46
      · refine r_pc 49 rfl ?_
        refine r_aload_n dX6_comeTo_49 rfl ?_
        refine r_bipush (v := (-7)) dX6_comeTo_50 (by decide) ?_
        refine r_put (w2 := (cW _ _ _ _ _ _ _ _ _ _ _ _ _ _ _ _ _ _ _ _ _ _ _ _ _ _ _ _ _ _ _ _ _ _ _ _ _ _ _, _)) dX6_comeTo_52 fX6_49 rfl rfl (Nat.le_of_ble_eq_true rfl) (fun _ => rfl) (fun _ => rfl) rfl ?_
        exact r_vret dX6_comeTo_55 rfl rfl rfl
  · exact absurd ((lg_cmp_eq _ _).mp h6) hq
/-- what a search leaves: the way, or why there is none; all else that it wrote is scratch -/
def Pway (tb : Nat → Int32) (tl : Int32) (tc : Nat → Int32) (tn : Int32) (dc : Nat → Int32) (dp dq : Nat → Int64) (dn dm : Int32) (ec : Nat → Int32) (ep eq : Nat → Int64) (en em ik : Int32) (lr : Nat → Int32) (ln ly : Int32) (wh q : Int64) (pw pf pl : Int32) (ta : Nat → Int32) (R : List AE) (res : Nat × List Nat) : Option Value → WD → Prop := fun r w' =>
  r = none ∧ ∃ (fc ff fs ft fu fw : Nat → Int32) (fy fd : Int32) (wr : Nat → Int64) (wf wb : Nat → Int32) (wn : Int32) (gz : G8) (wc : Nat → Int32), w' = (cW tb tl tc tn fc ff fs ft fu fw fy fd dc dp dq dn dm ec ep eq en em ik lr ln ly wh wr wf wb wn gz wc (q) (wansI res) pw pf pl ta, R) ∧ res.2.length ≤ 250 ∧ (res.1 = 0 → ∀ j x, res.2[j]? = some x → wc j = nI x)
theorem s_search {q : Int64} (hh : wh = homeP) (hq : Inj (sqc q)) (hV : ∀ q c q', Inj (sqc q) → c < 108 → nxC q c = some q' → Inj (sqc q')) : SemP mX6_search 6 0 0 [.ref 21, .long q] (cW tb tl tc tn fc ff fs ft fu fw fy fd dc dp dq dn dm ec ep eq en em ik lr ln ly wh wr wf wb wn gz wc ws wa pw pf pl ta, R) (Pway tb tl tc tn dc dp dq dn dm ec ep eq en em ik lr ln ly wh q pw pf pl ta R (wayB nxC homeP q)) := by
  refine semP_of (by decide) (Nat.le_of_ble_eq_true rfl) rfl ?_
  generalize hw0 : (cW tb tl tc tn fc ff fs ft fu fw fy fd dc dp dq dn dm ec ep eq en em ik lr ln ly wh wr wf wb wn gz wc ws wa pw pf pl ta, R) = w0
  -- the end, with the answer known
  have E : ∀ (wr : Nat → Int64) (wf wb : Nat → Int32) (wn : Int32) (gz : G8) (wc : Nat → Int32) (res : Nat × List Nat) (k : Nat) (y4 y5 : Option Value), k < 2 ^ 30 → res.2.length ≤ 250 → (res.1 = 0 → ∀ j x, res.2[j]? = some x → wc j = nI x) → (¬ wansI res = -2) → Rp mX6_search 6 0 0 w0 (Pway tb tl tc tn dc dp dq dn dm ec ep eq en em ik lr ln ly wh q pw pf pl ta R res) 0 0 39 [some (.ref 21), some (.long q), none, some (.int (nI k)), y4, y5] [] (cW tb tl tc tn fc ff fs ft fu fw fy fd dc dp dq dn dm ec ep eq en em ik lr ln ly wh wr wf wb wn gz wc (q) (wansI res) pw pf pl ta, R) := by
    intro wr wf wb wn gz wc res k y4 y5 hk hlen hc hne
    refine r_aload_n dX6_search_39 rfl ?_
    refine r_get dX6_search_40 fX6_49 rfl rfl ?_
    refine r_bipush (v := (-2)) dX6_search_43 (by decide) ?_
    refine r_icmp_ne 149 dX6_search_45 (by decide) (fun h45 => ?_) (fun h45 => ?_)
    · refine r_pc 149 rfl ?_
      exact r_vretP dX6_search_149 rfl ⟨rfl, fc, ff, fs, ft, fu, fw, fy, fd, wr, wf, wb, wn, gz, wc, rfl, hlen, hc⟩
    · exact absurd h45 hne
  have E79 : ∀ (wr : Nat → Int64) (wf wb : Nat → Int32) (wn : Int32) (gz : G8) (wc : Nat → Int32) (res : Nat × List Nat) (k c : Nat) (y5 : Option Value), k < 2 ^ 29 → res.2.length ≤ 250 → (res.1 = 0 → ∀ j x, res.2[j]? = some x → wc j = nI x) → (¬ wansI res = -2) → Rp mX6_search 6 0 0 w0 (Pway tb tl tc tn dc dp dq dn dm ec ep eq en em ik lr ln ly wh q pw pf pl ta R res) 0 0 79 [some (.ref 21), some (.long q), none, some (.int (nI k)), some (.int (nI c)), y5] [] (cW tb tl tc tn fc ff fs ft fu fw fy fd dc dp dq dn dm ec ep eq en em ik lr ln ly wh wr wf wb wn gz wc (q) (wansI res) pw pf pl ta, R) := by
    intro wr wf wb wn gz wc res k c y5 hk hlen hc hne
    refine r_aload_n dX6_search_79 rfl ?_
    refine r_get dX6_search_80 fX6_49 rfl rfl ?_
    refine r_bipush (v := (-2)) dX6_search_83 (by decide) ?_
    refine r_icmp_ne 143 dX6_search_85 (by decide) (fun h85 => ?_) (fun h85 => ?_)
    · refine r_pc 143 rfl ?_
      refine r_inc1 (ls' := [_, _, _, _, _, _]) dX6_search_143 (by decide) rfl rfl ?_
      refine r_goto 39 dX6_search_146 (by decide) ?_
      refine r_pc 39 rfl ?_
      exact E _ _ _ _ _ _ res (k + 1) _ _ (by omega) hlen hc hne
    · exact absurd h85 hne
  have O : ∀ (m k : Nat) (l : BL) (gz : G8) (wr : Nat → Int64) (wf wb wc : Nat → Int32) (y4 y5 : Option Value), k + m = 250 → k ≤ l.length → Bs l → Bw wr wf wb l → (∀ (j : Nat) (x : Int64 × Nat × Nat), l[j]? = some x → Inj (sqc x.1)) → Rp mX6_search 6 0 0 w0 (Pway tb tl tc tn dc dp dq dn dm ec ep eq en em ik lr ln ly wh q pw pf pl ta R (bout nxC homeP m k l)) 0 0 39 [some (.ref 21), some (.long q), none, some (.int (nI k)), y4, y5] [] (cW tb tl tc tn fc ff fs ft fu fw fy fd dc dp dq dn dm ec ep eq en em ik lr ln ly wh wr wf wb (nI l.length) gz wc (q) (-2) pw pf pl ta, R) := by
    intro m
    induction m with
    | zero =>
      intro k l gz wr wf wb wc y4 y5 hk hkl hs hb hv
      have hl := hs.2.1
      refine r_aload_n dX6_search_39 rfl ?_
      refine r_get dX6_search_40 fX6_49 rfl rfl ?_
      refine r_bipush (v := (-2)) dX6_search_43 (by decide) ?_
      refine r_icmp_ne 149 dX6_search_45 (by decide) (fun h45 => ?_) (fun h45 => ?_)
      · exact absurd rfl h45
      · refine r_pc 48 rfl ?_
        refine r_iload_n dX6_search_48 rfl ?_
        refine r_aload_n dX6_search_49 rfl ?_
        refine r_get dX6_search_50 fX6_39 rfl rfl ?_
        refine r_icmp_geN 149 dX6_search_53 (by decide) (by omega) (by omega) (fun h53 => ?_) (fun h53 => ?_)
        · refine r_pc 149 rfl ?_
          exact r_vretP dX6_search_149 rfl ⟨rfl, fc, ff, fs, ft, fu, fw, fy, fd, wr, wf, wb, nI l.length, gz, wc, rfl, Nat.zero_le _, fun h => absurd h (by decide : ¬ (2 : Nat) = 0)⟩
        · exact absurd h53 (by omega)
    | succ m ih =>
      intro k l gz wr wf wb wc y4 y5 hk hkl hs hb hv
      have hl := hs.2.1
      by_cases hkl2 : k = l.length
      · have hn : l[k]? = none := List.getElem?_eq_none (by omega)
        rw [show bout nxC homeP (m + 1) k l = (2, []) by rw [bout, hn]]
        refine r_aload_n dX6_search_39 rfl ?_
        refine r_get dX6_search_40 fX6_49 rfl rfl ?_
        refine r_bipush (v := (-2)) dX6_search_43 (by decide) ?_
        refine r_icmp_ne 149 dX6_search_45 (by decide) (fun h45 => ?_) (fun h45 => ?_)
        · exact absurd rfl h45
        · refine r_pc 48 rfl ?_
          refine r_iload_n dX6_search_48 rfl ?_
          refine r_aload_n dX6_search_49 rfl ?_
          refine r_get dX6_search_50 fX6_39 rfl rfl ?_
          refine r_icmp_geN 149 dX6_search_53 (by decide) (by omega) (by omega) (fun h53 => ?_) (fun h53 => ?_)
          · refine r_pc 149 rfl ?_
            exact r_vretP dX6_search_149 rfl ⟨rfl, fc, ff, fs, ft, fu, fw, fy, fd, wr, wf, wb, nI l.length, gz, wc, rfl, Nat.zero_le _, fun h => absurd h (by decide : ¬ (2 : Nat) = 0)⟩
          · exact absurd h53 (by omega)
      · have hk2 : k < l.length := by omega
        have hx : l[k]? = some l[k] := List.getElem?_eq_getElem hk2
        obtain ⟨b1, -, -⟩ := hb k _ hx
        have hvk := hv k _ hx
        generalize hq0 : l[k].1 = q0 at b1 hvk
        rw [show bout nxC homeP (m + 1) k l = (match bin nxC homeP k q0 108 0 l with | .inl l' => bout nxC homeP m (k + 1) l' | .inr r => r) by rw [bout, hx]; dsimp only; rw [hq0]; rfl]
        -- the inner loop
        have I : ∀ (m2 c : Nat) (l : BL) (gt gu gw : Nat → Int32) (gy gd : Int32) (wr : Nat → Int64) (wf wb : Nat → Int32) (y5 : Option Value), c + m2 = 108 → k < l.length → Bs l → Bw wr wf wb l → (∀ (j : Nat) (x : Int64 × Nat × Nat), l[j]? = some x → Inj (sqc x.1)) → Rp mX6_search 6 0 0 w0 (Pway tb tl tc tn dc dp dq dn dm ec ep eq en em ik lr ln ly wh q pw pf pl ta R (match bin nxC homeP k q0 m2 c l with | .inl l' => bout nxC homeP m (k + 1) l' | .inr r => r)) 0 0 79 [some (.ref 21), some (.long q), none, some (.int (nI k)), some (.int (nI c)), y5] [] (cW tb tl tc tn fc ff fs ft fu fw fy fd dc dp dq dn dm ec ep eq en em ik lr ln ly wh wr wf wb (nI l.length) (((fun j => nI (sqc q0 j)), (fun j => nI (sqf q0 j)), (fun x => stI (who (sqc q0) 8 x)), gt, gu, gw, gy, gd)) wc (q) (-2) pw pf pl ta, R) := by
          intro m2
          induction m2 with
          | zero =>
            intro c l gt gu gw gy gd wr wf wb y5 hc hkl hs hb hv
            refine r_aload_n dX6_search_79 rfl ?_
            refine r_get dX6_search_80 fX6_49 rfl rfl ?_
            refine r_bipush (v := (-2)) dX6_search_83 (by decide) ?_
            refine r_icmp_ne 143 dX6_search_85 (by decide) (fun h85 => ?_) (fun h85 => ?_)
            · exact absurd rfl h85
            · refine r_pc 88 rfl ?_
              refine r_iload dX6_search_88 rfl ?_
              refine r_bipush (v := (nI 108)) dX6_search_90 (by decide) ?_
              refine r_icmp_geN 143 dX6_search_92 (by decide) (by omega) (by omega) (fun h92 => ?_) (fun h92 => ?_)
              · refine r_pc 143 rfl ?_
                refine r_inc1 (ls' := [_, _, _, _, _, _]) dX6_search_143 (by decide) rfl rfl ?_
                refine r_goto 39 dX6_search_146 (by decide) ?_
                refine r_pc 39 rfl ?_
                exact ih (k + 1) l _ _ _ _ _ _ _ (by omega) (by omega) hs hb hv
              · exact absurd h92 (by omega)
          | succ m2 ih2 =>
            intro c l gt gu gw gy gd wr wf wb y5 hc hkl hs hb hv
            have hc8 : c < 108 := by omega
            have hl := hs.2.1
            have hw9 : c / 12 < 9 := by omega
            have hg12 : c % 12 < 12 := by omega
            have hkd := pthL_len hs k k (Nat.le_refl _) hkl
            unfold bin
            cases ho : POK (sqc q0) (sqf q0) (c / 12) (c % 12) with
            | false =>
              have hn : nxC q0 c = none := by rw [nxC, ho]
              rw [hn]
              refine r_aload_n dX6_search_79 rfl ?_
              refine r_get dX6_search_80 fX6_49 rfl rfl ?_
              refine r_bipush (v := (-2)) dX6_search_83 (by decide) ?_
              refine r_icmp_ne 143 dX6_search_85 (by decide) (fun h85 => ?_) (fun h85 => ?_)
              · exact absurd rfl h85
              · refine r_pc 88 rfl ?_
                refine r_iload dX6_search_88 rfl ?_
                refine r_bipush (v := (nI 108)) dX6_search_90 (by decide) ?_
                refine r_icmp_geN 143 dX6_search_92 (by decide) (by omega) (by omega) (fun h92 => ?_) (fun h92 => ?_)
                · exact absurd h92 (by omega)
                · refine r_pc 95 rfl ?_
                  refine r_bipush (v := (nI 100)) dX6_search_95 (by decide) ?_
                  refine r_iload dX6_search_97 rfl ?_
                  refine r_bipush (v := (nI 12)) dX6_search_99 (by decide) ?_
                  refine r_idivN dX6_search_101 (by omega) (by decide) (by decide) ?_
                  refine r_imulN dX6_search_102 ?_
                  refine r_pc 103 rfl ?_
                  refine r_iload dX6_search_103 rfl ?_
                  refine r_bipush (v := (nI 12)) dX6_search_105 (by decide) ?_
                  refine r_iremN dX6_search_107 (by omega) (by decide) (by decide) ?_
                  refine r_iaddN dX6_search_108 ?_
                  refine r_istore (ls' := [_, _, _, _, _, _]) dX6_search_109 (by decide) rfl ?_
                  refine r_pc 111 rfl ?_
                  refine r_aload_n dX6_search_111 rfl ?_
                  refine r_get dX6_search_112 fX6_12 rfl rfl ?_
                  refine r_iload dX6_search_115 rfl ?_
                  refine r_cV dX6_search_117 (g_plan hw9 hg12 (Sq_load q0) (Sd_load q0) hvk) lX6_60 rfl rfl rfl (by decide) ⟨Nat.le_refl _, Nat.le_refl _⟩ (Nat.le_of_ble_eq_true rfl) ?_
                  rw [ho]
                  refine r_if_eq 137 dX6_search_120 (by decide) (fun h120 => ?_) (fun h120 => ?_)
                  · refine r_pc 137 rfl ?_
                    refine r_inc1 (ls' := [_, _, _, _, _, _]) dX6_search_137 (by decide) rfl rfl ?_
                    refine r_goto 79 dX6_search_140 (by decide) ?_
                    refine r_pc 79 rfl ?_
                    exact ih2 (c + 1) l _ _ _ _ _ _ _ _ _ (by omega) hkl hs hb hv
                  · exact absurd rfl h120
            | true =>
              have hn : nxC q0 c = some (pkI (fun j => stI (PT (sqc q0) (sqf q0) (c / 12) (c % 12) j)) (fun j => nI (PU (sqc q0) (sqf q0) (c / 12) (c % 12) j)) 8) := by rw [nxC, ho]
              have hvn := hV q0 c _ hvk hc8 hn
              rw [hn]
              generalize hqn : pkI (fun j => stI (PT (sqc q0) (sqf q0) (c / 12) (c % 12) j)) (fun j => nI (PU (sqc q0) (sqf q0) (c / 12) (c % 12) j)) 8 = qn at hvn hn
              dsimp only
              by_cases hhm : qn = homeP
              · rw [if_pos hhm]
                have hlen : (pthL l 250 k ++ [bcode c]).length = (pthL l 250 k).length + 1 := by simp
                have ha : wansI (0, pthL l 250 k ++ [bcode c]) = nI ((pthL l 250 k).length + 1) := by rw [wansI, if_pos rfl]; dsimp only; rw [hlen]
                have E := fun gt gu gw gy gd y5 => E79 wr wf wb (nI l.length) ((fun j => nI (sqc q0 j)), (fun j => nI (sqf q0 j)), (fun x => stI (who (sqc q0) 8 x)), gt, gu, gw, gy, gd) (putL wc (pthL l 250 k ++ [bcode c])) (0, pthL l 250 k ++ [bcode c]) k (c + 1) y5 (by omega) (by dsimp only; omega) (fun _ j x hx => by unfold putL; dsimp only at hx; rw [hx]) (by rw [ha]; exact nI_m2 (by omega))
                rw [ha] at E
                have hcm := fun gt gu gw gy gd => s_comeH (tb := tb) (tl := tl) (tc := tc) (tn := tn) (fc := fc) (ff := ff) (fs := fs) (ft := ft) (fu := fu) (fw := fw) (fy := fy) (fd := fd) (dc := dc) (dp := dp) (dq := dq) (dn := dn) (dm := dm) (ec := ec) (ep := ep) (eq := eq) (en := en) (em := em) (ik := ik) (lr := lr) (ln := ln) (ly := ly) (wh := wh) (wr := wr) (wf := wf) (wb := wb) (wn := nI l.length) (gz := ((fun j => nI (sqc q0 j)), (fun j => nI (sqf q0 j)), (fun x => stI (who (sqc q0) 8 x)), gt, gu, gw, gy, gd)) (wc := wc) (ws := q) (wa := -2) (pw := pw) (pf := pf) (pl := pl) (ta := ta) (R := R) (x := bcode c) hb hs hkl
                refine r_aload_n dX6_search_79 rfl ?_
                refine r_get dX6_search_80 fX6_49 rfl rfl ?_
                refine r_bipush (v := (-2)) dX6_search_83 (by decide) ?_
                refine r_icmp_ne 143 dX6_search_85 (by decide) (fun h85 => ?_) (fun h85 => ?_)
                · exact absurd rfl h85
                · refine r_pc 88 rfl ?_
                  refine r_iload dX6_search_88 rfl ?_
                  refine r_bipush (v := (nI 108)) dX6_search_90 (by decide) ?_
                  refine r_icmp_geN 143 dX6_search_92 (by decide) (by omega) (by omega) (fun h92 => ?_) (fun h92 => ?_)
                  · exact absurd h92 (by omega)
                  · refine r_pc 95 rfl ?_
                    refine r_bipush (v := (nI 100)) dX6_search_95 (by decide) ?_
                    refine r_iload dX6_search_97 rfl ?_
                    refine r_bipush (v := (nI 12)) dX6_search_99 (by decide) ?_
                    refine r_idivN dX6_search_101 (by omega) (by decide) (by decide) ?_
                    refine r_imulN dX6_search_102 ?_
                    refine r_pc 103 rfl ?_
                    refine r_iload dX6_search_103 rfl ?_
                    refine r_bipush (v := (nI 12)) dX6_search_105 (by decide) ?_
                    refine r_iremN dX6_search_107 (by omega) (by decide) (by decide) ?_
                    refine r_iaddN dX6_search_108 ?_
                    refine r_istore (ls' := [_, _, _, _, _, _]) dX6_search_109 (by decide) rfl ?_
                    refine r_pc 111 rfl ?_
                    refine r_aload_n dX6_search_111 rfl ?_
                    refine r_get dX6_search_112 fX6_12 rfl rfl ?_
                    refine r_iload dX6_search_115 rfl ?_
                    refine r_cV dX6_search_117 (g_plan hw9 hg12 (Sq_load q0) (Sd_load q0) hvk) lX6_60 rfl rfl rfl (by decide) ⟨Nat.le_refl _, Nat.le_refl _⟩ (Nat.le_of_ble_eq_true rfl) ?_
                    rw [ho]
                    refine r_if_eq 137 dX6_search_120 (by decide) (fun h120 => ?_) (fun h120 => ?_)
                    · exact absurd h120 (by decide)
                    · refine r_pc 123 rfl ?_
                      refine r_aload_n dX6_search_123 rfl ?_
                      refine r_aload_n dX6_search_124 rfl ?_
                      refine r_get dX6_search_125 fX6_12 rfl rfl ?_
                      refine r_cV dX6_search_128 g_planned lX6_64 rfl rfl rfl (by decide) ⟨Nat.le_refl _, Nat.le_refl _⟩ (Nat.le_of_ble_eq_true rfl) ?_
                      rw [hqn]
                      refine r_topl wh (by rw [hh]; exact hhm) ?_
                      refine r_iload_n dX6_search_131 rfl ?_
                      refine r_pc 132 rfl ?_
                      refine r_iload dX6_search_132 rfl ?_
                      refine r_cVv dX6_search_134 (hcm _ _ _ _ _) lX6_67 rfl rfl rfl (by decide) ⟨Nat.le_refl _, Nat.le_refl _⟩ (Nat.le_of_ble_eq_true rfl) ?_
                      refine r_inc1 (ls' := [_, _, _, _, _, _]) dX6_search_137 (by decide) rfl rfl ?_
                      refine r_goto 79 dX6_search_140 (by decide) ?_
                      refine r_pc 79 rfl ?_
                      exact E _ _ _ _ _ _
              · rw [if_neg hhm]
                have hhw : ¬ qn = wh := by rw [hh]; exact hhm
                cases ha : amgL qn l with
                | true =>
                  dsimp only
                  refine r_aload_n dX6_search_79 rfl ?_
                  refine r_get dX6_search_80 fX6_49 rfl rfl ?_
                  refine r_bipush (v := (-2)) dX6_search_83 (by decide) ?_
                  refine r_icmp_ne 143 dX6_search_85 (by decide) (fun h85 => ?_) (fun h85 => ?_)
                  · exact absurd rfl h85
                  · refine r_pc 88 rfl ?_
                    refine r_iload dX6_search_88 rfl ?_
                    refine r_bipush (v := (nI 108)) dX6_search_90 (by decide) ?_
                    refine r_icmp_geN 143 dX6_search_92 (by decide) (by omega) (by omega) (fun h92 => ?_) (fun h92 => ?_)
                    · exact absurd h92 (by omega)
                    · refine r_pc 95 rfl ?_
                      refine r_bipush (v := (nI 100)) dX6_search_95 (by decide) ?_
                      refine r_iload dX6_search_97 rfl ?_
                      refine r_bipush (v := (nI 12)) dX6_search_99 (by decide) ?_
                      refine r_idivN dX6_search_101 (by omega) (by decide) (by decide) ?_
                      refine r_imulN dX6_search_102 ?_
                      refine r_pc 103 rfl ?_
                      refine r_iload dX6_search_103 rfl ?_
                      refine r_bipush (v := (nI 12)) dX6_search_105 (by decide) ?_
                      refine r_iremN dX6_search_107 (by omega) (by decide) (by decide) ?_
                      refine r_iaddN dX6_search_108 ?_
                      refine r_istore (ls' := [_, _, _, _, _, _]) dX6_search_109 (by decide) rfl ?_
                      refine r_pc 111 rfl ?_
                      refine r_aload_n dX6_search_111 rfl ?_
                      refine r_get dX6_search_112 fX6_12 rfl rfl ?_
                      refine r_iload dX6_search_115 rfl ?_
                      refine r_cV dX6_search_117 (g_plan hw9 hg12 (Sq_load q0) (Sd_load q0) hvk) lX6_60 rfl rfl rfl (by decide) ⟨Nat.le_refl _, Nat.le_refl _⟩ (Nat.le_of_ble_eq_true rfl) ?_
                      rw [ho]
                      refine r_if_eq 137 dX6_search_120 (by decide) (fun h120 => ?_) (fun h120 => ?_)
                      · exact absurd h120 (by decide)
                      · refine r_pc 123 rfl ?_
                        refine r_aload_n dX6_search_123 rfl ?_
                        refine r_aload_n dX6_search_124 rfl ?_
                        refine r_get dX6_search_125 fX6_12 rfl rfl ?_
                        refine r_cV dX6_search_128 g_planned lX6_64 rfl rfl rfl (by decide) ⟨Nat.le_refl _, Nat.le_refl _⟩ (Nat.le_of_ble_eq_true rfl) ?_
                        rw [hqn]
                        refine r_iload_n dX6_search_131 rfl ?_
                        refine r_pc 132 rfl ?_
                        refine r_iload dX6_search_132 rfl ?_
                        refine r_cVv dX6_search_134 (s_comeA hhw hb hs ha) lX6_67 rfl rfl rfl (by decide) ⟨Nat.le_refl _, Nat.le_refl _⟩ (Nat.le_of_ble_eq_true rfl) ?_
                        refine r_inc1 (ls' := [_, _, _, _, _, _]) dX6_search_137 (by decide) rfl rfl ?_
                        refine r_goto 79 dX6_search_140 (by decide) ?_
                        refine r_pc 79 rfl ?_
                        exact ih2 (c + 1) l _ _ _ _ _ _ _ _ _ (by omega) hkl hs hb hv
                | false =>
                  dsimp only
                  by_cases hl2 : l.length < 250
                  · rw [if_pos hl2]
                    have hbc : bcode c < 1000 := by unfold bcode; omega
                    have ih2 := fun gt gu gw gy gd y5 => ih2 (c + 1) (l ++ [(qn, k, bcode c)]) gt gu gw gy gd _ _ _ y5 (by omega) (by simp; omega) (Bs_push hs hkl hbc hl2) (Bw_push hb) (fun j x hx => by
                      by_cases hj : j < l.length
                      · rw [List.getElem?_append_left hj] at hx
                        exact hv j x hx
                      · rw [List.getElem?_append_right (by omega)] at hx
                        have h0 : j - l.length = 0 := by
                          cases hz : j - l.length with
                          | zero => rfl
                          | succ z => rw [hz] at hx; simp at hx
                        rw [h0] at hx
                        simp at hx
                        subst hx
                        exact hvn)
                    rw [show (l ++ [(qn, k, bcode c)]).length = l.length + 1 by simp] at ih2
                    refine r_aload_n dX6_search_79 rfl ?_
                    refine r_get dX6_search_80 fX6_49 rfl rfl ?_
                    refine r_bipush (v := (-2)) dX6_search_83 (by decide) ?_
                    refine r_icmp_ne 143 dX6_search_85 (by decide) (fun h85 => ?_) (fun h85 => ?_)
                    · exact absurd rfl h85
                    · refine r_pc 88 rfl ?_
                      refine r_iload dX6_search_88 rfl ?_
                      refine r_bipush (v := (nI 108)) dX6_search_90 (by decide) ?_
                      refine r_icmp_geN 143 dX6_search_92 (by decide) (by omega) (by omega) (fun h92 => ?_) (fun h92 => ?_)
                      · exact absurd h92 (by omega)
                      · refine r_pc 95 rfl ?_
                        refine r_bipush (v := (nI 100)) dX6_search_95 (by decide) ?_
                        refine r_iload dX6_search_97 rfl ?_
                        refine r_bipush (v := (nI 12)) dX6_search_99 (by decide) ?_
                        refine r_idivN dX6_search_101 (by omega) (by decide) (by decide) ?_
                        refine r_imulN dX6_search_102 ?_
                        refine r_pc 103 rfl ?_
                        refine r_iload dX6_search_103 rfl ?_
                        refine r_bipush (v := (nI 12)) dX6_search_105 (by decide) ?_
                        refine r_iremN dX6_search_107 (by omega) (by decide) (by decide) ?_
                        refine r_iaddN dX6_search_108 ?_
                        refine r_istore (ls' := [_, _, _, _, _, _]) dX6_search_109 (by decide) rfl ?_
                        refine r_pc 111 rfl ?_
                        refine r_aload_n dX6_search_111 rfl ?_
                        refine r_get dX6_search_112 fX6_12 rfl rfl ?_
                        refine r_iload dX6_search_115 rfl ?_
                        refine r_cV dX6_search_117 (g_plan hw9 hg12 (Sq_load q0) (Sd_load q0) hvk) lX6_60 rfl rfl rfl (by decide) ⟨Nat.le_refl _, Nat.le_refl _⟩ (Nat.le_of_ble_eq_true rfl) ?_
                        rw [ho]
                        refine r_if_eq 137 dX6_search_120 (by decide) (fun h120 => ?_) (fun h120 => ?_)
                        · exact absurd h120 (by decide)
                        · refine r_pc 123 rfl ?_
                          refine r_aload_n dX6_search_123 rfl ?_
                          refine r_aload_n dX6_search_124 rfl ?_
                          refine r_get dX6_search_125 fX6_12 rfl rfl ?_
                          refine r_cV dX6_search_128 g_planned lX6_64 rfl rfl rfl (by decide) ⟨Nat.le_refl _, Nat.le_refl _⟩ (Nat.le_of_ble_eq_true rfl) ?_
                          rw [hqn]
                          refine r_iload_n dX6_search_131 rfl ?_
                          refine r_pc 132 rfl ?_
                          refine r_iload dX6_search_132 rfl ?_
                          refine r_cVv dX6_search_134 (s_comeN hhw hb ha hl2) lX6_67 rfl rfl rfl (by decide) ⟨Nat.le_refl _, Nat.le_refl _⟩ (Nat.le_of_ble_eq_true rfl) ?_
                          refine r_inc1 (ls' := [_, _, _, _, _, _]) dX6_search_137 (by decide) rfl rfl ?_
                          refine r_goto 79 dX6_search_140 (by decide) ?_
                          refine r_pc 79 rfl ?_
                          exact ih2 _ _ _ _ _ _
                  · rw [if_neg hl2]
                    have E := fun gt gu gw gy gd y5 => E79 wr wf wb (nI l.length) ((fun j => nI (sqc q0 j)), (fun j => nI (sqf q0 j)), (fun x => stI (who (sqc q0) 8 x)), gt, gu, gw, gy, gd) wc (1, []) k (c + 1) y5 (by omega) (Nat.zero_le _) (fun h => absurd h (by decide : ¬ (1 : Nat) = 0)) (by decide)
                    refine r_aload_n dX6_search_79 rfl ?_
                    refine r_get dX6_search_80 fX6_49 rfl rfl ?_
                    refine r_bipush (v := (-2)) dX6_search_83 (by decide) ?_
                    refine r_icmp_ne 143 dX6_search_85 (by decide) (fun h85 => ?_) (fun h85 => ?_)
                    · exact absurd rfl h85
                    · refine r_pc 88 rfl ?_
                      refine r_iload dX6_search_88 rfl ?_
                      refine r_bipush (v := (nI 108)) dX6_search_90 (by decide) ?_
                      refine r_icmp_geN 143 dX6_search_92 (by decide) (by omega) (by omega) (fun h92 => ?_) (fun h92 => ?_)
                      · exact absurd h92 (by omega)
                      · refine r_pc 95 rfl ?_
                        refine r_bipush (v := (nI 100)) dX6_search_95 (by decide) ?_
                        refine r_iload dX6_search_97 rfl ?_
                        refine r_bipush (v := (nI 12)) dX6_search_99 (by decide) ?_
                        refine r_idivN dX6_search_101 (by omega) (by decide) (by decide) ?_
                        refine r_imulN dX6_search_102 ?_
                        refine r_pc 103 rfl ?_
                        refine r_iload dX6_search_103 rfl ?_
                        refine r_bipush (v := (nI 12)) dX6_search_105 (by decide) ?_
                        refine r_iremN dX6_search_107 (by omega) (by decide) (by decide) ?_
                        refine r_iaddN dX6_search_108 ?_
                        refine r_istore (ls' := [_, _, _, _, _, _]) dX6_search_109 (by decide) rfl ?_
                        refine r_pc 111 rfl ?_
                        refine r_aload_n dX6_search_111 rfl ?_
                        refine r_get dX6_search_112 fX6_12 rfl rfl ?_
                        refine r_iload dX6_search_115 rfl ?_
                        refine r_cV dX6_search_117 (g_plan hw9 hg12 (Sq_load q0) (Sd_load q0) hvk) lX6_60 rfl rfl rfl (by decide) ⟨Nat.le_refl _, Nat.le_refl _⟩ (Nat.le_of_ble_eq_true rfl) ?_
                        rw [ho]
                        refine r_if_eq 137 dX6_search_120 (by decide) (fun h120 => ?_) (fun h120 => ?_)
                        · exact absurd h120 (by decide)
                        · refine r_pc 123 rfl ?_
                          refine r_aload_n dX6_search_123 rfl ?_
                          refine r_aload_n dX6_search_124 rfl ?_
                          refine r_get dX6_search_125 fX6_12 rfl rfl ?_
                          refine r_cV dX6_search_128 g_planned lX6_64 rfl rfl rfl (by decide) ⟨Nat.le_refl _, Nat.le_refl _⟩ (Nat.le_of_ble_eq_true rfl) ?_
                          rw [hqn]
                          refine r_iload_n dX6_search_131 rfl ?_
                          refine r_pc 132 rfl ?_
                          refine r_iload dX6_search_132 rfl ?_
                          refine r_cVv dX6_search_134 (s_comeL hhw hb ha (by omega)) lX6_67 rfl rfl rfl (by decide) ⟨Nat.le_refl _, Nat.le_refl _⟩ (Nat.le_of_ble_eq_true rfl) ?_
                          refine r_inc1 (ls' := [_, _, _, _, _, _]) dX6_search_137 (by decide) rfl rfl ?_
                          refine r_goto 79 dX6_search_140 (by decide) ?_
                          refine r_pc 79 rfl ?_
                          exact E _ _ _ _ _ _
        obtain ⟨gc, gf, gs, gt, gu, gw, gy, gd⟩ := gz
        refine r_aload_n dX6_search_39 rfl ?_
        refine r_get dX6_search_40 fX6_49 rfl rfl ?_
        refine r_bipush (v := (-2)) dX6_search_43 (by decide) ?_
        refine r_icmp_ne 149 dX6_search_45 (by decide) (fun h45 => ?_) (fun h45 => ?_)
        · exact absurd rfl h45
        · refine r_pc 48 rfl ?_
          refine r_iload_n dX6_search_48 rfl ?_
          refine r_aload_n dX6_search_49 rfl ?_
          refine r_get dX6_search_50 fX6_39 rfl rfl ?_
          refine r_icmp_geN 149 dX6_search_53 (by decide) (by omega) (by omega) (fun h53 => ?_) (fun h53 => ?_)
          · exact absurd h53 (by omega)
          · refine r_pc 56 rfl ?_
            refine r_iload_n dX6_search_56 rfl ?_
            refine r_sipush (v := (nI 250)) dX6_search_57 (by decide) ?_
            refine r_icmp_geN 149 dX6_search_60 (by decide) (by omega) (by omega) (fun h60 => ?_) (fun h60 => ?_)
            · exact absurd h60 (by omega)
            · refine r_pc 63 rfl ?_
              refine r_aload_n dX6_search_63 rfl ?_
              refine r_get dX6_search_64 fX6_12 rfl rfl ?_
              refine r_aload_n dX6_search_67 rfl ?_
              refine r_get dX6_search_68 fX6_28 rfl rfl ?_
              refine r_iload_n dX6_search_71 rfl ?_
              refine r_pc 72 rfl ?_
              refine r_lald dX6_search_72 rfl rfl (by omega) (by decide) ?_
              rw [b1]
              refine r_cVv dX6_search_73 (g_load q0) lX6_56 rfl rfl rfl (by decide) ⟨Nat.le_refl _, Nat.le_refl _⟩ (Nat.le_of_ble_eq_true rfl) ?_
              refine r_iconst (v := (nI 0)) dX6_search_76 (by decide) ?_
              refine r_istore (ls' := [_, _, _, _, _, _]) dX6_search_77 (by decide) rfl ?_
              refine r_pc 79 rfl ?_
              exact I 108 0 l _ _ _ _ _ _ _ _ _ (by omega) hk2 hs hb hv
  subst hw0
  by_cases hqh : q = homeP
  · rw [show wayB nxC homeP q = (0, []) by rw [wayB, if_pos hqh]]
    have E := fun wr wf wb wn gz => E wr wf wb wn gz wc (0, []) 0 none none (by decide) (Nat.zero_le _) (fun _ j x hx => by simp at hx) (by decide)
    refine r_aload_n dX6_search_0 rfl ?_
    refine r_lload_n dX6_search_1 rfl ?_
    refine r_put (w2 := (cW _ _ _ _ _ _ _ _ _ _ _ _ _ _ _ _ _ _ _ _ _ _ _ _ _ _ _ _ _ _ _ _ _ _ _ _ _ _ _, _)) dX6_search_2 fX6_46 rfl rfl (Nat.le_of_ble_eq_true rfl) (fun _ => rfl) (fun _ => rfl) rfl ?_
    refine r_aload_n dX6_search_5 rfl ?_
    refine r_lload_n dX6_search_6 rfl ?_
    refine r_pc 7 rfl ?_
    refine r_aload_n dX6_search_7 rfl ?_
    refine r_get dX6_search_8 fX6_24 rfl rfl ?_
    refine r_lcmp dX6_search_11 ?_
    refine r_if_ne 19 dX6_search_12 (by decide) (fun h12 => ?_) (fun h12 => ?_)
    · exact absurd ((lg_cmp_eq _ _).mpr (by rw [hh]; exact hqh)) h12
    · refine r_pc 15 rfl ?_
      refine r_iconst (v := (nI 0)) dX6_search_15 (by decide) ?_
      refine r_goto 21 dX6_search_16 (by decide) ?_
      refine r_put (w2 := (cW _ _ _ _ _ _ _ _ _ _ _ _ _ _ _ _ _ _ _ _ _ _ _ _ _ _ _ _ _ _ _ _ _ _ _ _ _ _ _, _)) dX6_search_21 fX6_49 rfl rfl (Nat.le_of_ble_eq_true rfl) (fun _ => rfl) (fun _ => rfl) rfl ?_
      refine r_aload_n dX6_search_24 rfl ?_
      refine r_iconst (v := (nI 0)) dX6_search_25 (by decide) ?_
      refine r_pc 26 rfl ?_
      refine r_put (w2 := (cW _ _ _ _ _ _ _ _ _ _ _ _ _ _ _ _ _ _ _ _ _ _ _ _ _ _ _ _ _ _ _ _ _ _ _ _ _ _ _, _)) dX6_search_26 fX6_39 rfl rfl (Nat.le_of_ble_eq_true rfl) (fun _ => rfl) (fun _ => rfl) rfl ?_
      refine r_aload_n dX6_search_29 rfl ?_
      refine r_lload_n dX6_search_30 rfl ?_
      refine r_iconst (v := (nI 0)) dX6_search_31 (by decide) ?_
      refine r_iconst (v := (nI 0)) dX6_search_32 (by decide) ?_
      refine r_pc 33 rfl ?_
      refine r_cV dX6_search_33 (s_addW (n := 0) (by decide)) lX6_52 rfl rfl rfl (by decide) ⟨Nat.le_refl _, Nat.le_refl _⟩ (Nat.le_of_ble_eq_true rfl) ?_
      refine r_pop dX6_search_36 rfl ?_
      refine r_iconst (v := (nI 0)) dX6_search_37 (by decide) ?_
      refine r_istore_n (ls' := [_, _, _, _, _, _]) dX6_search_38 (by decide) rfl ?_
      refine r_pc 39 rfl ?_
      exact E _ _ _ _ _
  · rw [show wayB nxC homeP q = bout nxC homeP 250 0 [(q, 0, 0)] by rw [wayB, if_neg hqh]]
    have O := fun gz wr wf wb wc hb => O 250 0 [(q, 0, 0)] gz wr wf wb wc none none (by decide) (Nat.zero_le _) ⟨Nat.le_refl 1, Nat.le_of_ble_eq_true rfl, fun j x hx => by cases j with | zero => simp at hx; subst hx; exact ⟨fun h => absurd h (by decide), Nat.lt_of_lt_of_le Nat.zero_lt_one (Nat.le_of_ble_eq_true rfl)⟩ | succ j => simp at hx⟩ hb (fun j x hx => by cases j with | zero => simp at hx; subst hx; exact hq | succ j => simp at hx)
    refine r_aload_n dX6_search_0 rfl ?_
    refine r_lload_n dX6_search_1 rfl ?_
    refine r_put (w2 := (cW _ _ _ _ _ _ _ _ _ _ _ _ _ _ _ _ _ _ _ _ _ _ _ _ _ _ _ _ _ _ _ _ _ _ _ _ _ _ _, _)) dX6_search_2 fX6_46 rfl rfl (Nat.le_of_ble_eq_true rfl) (fun _ => rfl) (fun _ => rfl) rfl ?_
    refine r_aload_n dX6_search_5 rfl ?_
    refine r_lload_n dX6_search_6 rfl ?_
    refine r_pc 7 rfl ?_
    refine r_aload_n dX6_search_7 rfl ?_
    refine r_get dX6_search_8 fX6_24 rfl rfl ?_
    refine r_lcmp dX6_search_11 ?_
    refine r_if_ne 19 dX6_search_12 (by decide) (fun h12 => ?_) (fun h12 => ?_)
    · refine r_pc 19 rfl ?_
      refine r_bipush (v := (-2)) dX6_search_19 (by decide) ?_
      refine r_put (w2 := (cW _ _ _ _ _ _ _ _ _ _ _ _ _ _ _ _ _ _ _ _ _ _ _ _ _ _ _ _ _ _ _ _ _ _ _ _ _ _ _, _)) dX6_search_21 fX6_49 rfl rfl (Nat.le_of_ble_eq_true rfl) (fun _ => rfl) (fun _ => rfl) rfl ?_
      refine r_aload_n dX6_search_24 rfl ?_
      refine r_iconst (v := (nI 0)) dX6_search_25 (by decide) ?_
      refine r_put (w2 := (cW _ _ _ _ _ _ _ _ _ _ _ _ _ _ _ _ _ _ _ _ _ _ _ _ _ _ _ _ _ _ _ _ _ _ _ _ _ _ _, _)) dX6_search_26 fX6_39 rfl rfl (Nat.le_of_ble_eq_true rfl) (fun _ => rfl) (fun _ => rfl) rfl ?_
      refine r_pc 29 rfl ?_
      refine r_aload_n dX6_search_29 rfl ?_
      refine r_lload_n dX6_search_30 rfl ?_
      refine r_iconst (v := (nI 0)) dX6_search_31 (by decide) ?_
      refine r_iconst (v := (nI 0)) dX6_search_32 (by decide) ?_
      refine r_cV dX6_search_33 (s_addW (n := 0) (by decide)) lX6_52 rfl rfl rfl (by decide) ⟨Nat.le_refl _, Nat.le_refl _⟩ (Nat.le_of_ble_eq_true rfl) ?_
      refine r_pc 36 rfl ?_
      refine r_pop dX6_search_36 rfl ?_
      refine r_iconst (v := (nI 0)) dX6_search_37 (by decide) ?_
      refine r_istore_n (ls' := [_, _, _, _, _, _]) dX6_search_38 (by decide) rfl ?_
      refine r_pc 39 rfl ?_
      exact O _ _ _ _ _ (fun j x hx => by cases j with | zero => simp at hx; subst hx; exact ⟨pk_uLs, pk_us, pk_us⟩ | succ j => simp at hx)
    · exact absurd (by rw [← hh]; exact (lg_cmp_eq _ _).mp h12) hqh
end W2
