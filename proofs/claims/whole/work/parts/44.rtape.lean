/-! ===== the reference: its tape ===== -/
def eqL (a b : List Nat) : Bool := decide (a.length = b.length) && (List.range 12).all (fun i => decide (a.getD i 0 = b.getD i 0))
theorem zs_ne : ∀ k, k < 9 → ∀ j, j < 12 → eqL (zs k) (zs (9 + j)) = false := by decide +kernel
theorem zs_12 : ∀ k, k < 21 → (zs k).length ≤ 12 := by decide +kernel
theorem weqB_at {b : Nat → Nat} {q : List Nat} {s : Nat} : ∀ {n : Nat}, weqB b q s n = true → ∀ i, i < n → b (s + i) = q.getD i 0
  | 0, _, i, hi => absurd hi (by omega)
  | n + 1, h, i, hi => by
    have h1 : (weqB b q s n && decide (b (s + n) = q.getD n 0)) = true := h
    rw [Bool.and_eq_true, decide_eq_true_eq] at h1
    by_cases e : i = n
    · subst e; exact h1.2
    · exact weqB_at h1.1 i (by omega)
/-- no word is a who and a figure -/
theorem who_fig {b : Nat → Nat} {s e w g : Nat} (h1 : whoN b s e = some w) (h2 : figN b s e = some g) : False := by
  obtain ⟨a1, -, a3⟩ := fnd_some h1
  obtain ⟨b1, -, b3⟩ := fnd_some h2
  unfold iw at a1 b1
  rw [Bool.and_eq_true, decide_eq_true_eq] at a1 b1
  have h := zs_ne w (by omega) g (by omega)
  have hl : (zs w).length = (zs (9 + g)).length := by omega
  have : eqL (zs w) (zs (9 + g)) = true := by
    unfold eqL
    rw [Bool.and_eq_true, decide_eq_true_eq, List.all_eq_true]
    refine ⟨hl, fun i hi => decide_eq_true ?_⟩
    by_cases q : i < (zs w).length
    · rw [← weqB_at a1.2 i q, ← weqB_at b1.2 i (by omega)]
    · rw [List.getD, List.getD, List.getElem?_eq_none (by omega), List.getElem?_eq_none (by omega)]
  rw [this] at h
  cases h
theorem m_isInN (w : WD) {x a b : Nat} (hx : x < 2 ^ 31) (ha : a < 2 ^ 31) (hb : b < 2 ^ 31) : Sem mX9_isIn 1 0 0 [.int (nI x), .int (nI a), .int (nI b)] w (some (.int (bI (decide (a ≤ x ∧ x ≤ b))))) w := by
  have h := m_isIn w (nI x) (nI a) (nI b)
  have e : (¬ nI x < nI a ∧ ¬ nI b < nI x) ↔ (a ≤ x ∧ x ≤ b) := by
    rw [nI_ltI hx ha, nI_ltI hb hx]
    omega
  rw [decide_eq_decide.mpr e] at h
  exact h
theorem rdc_no {b : Nat → Nat} {L s : Nat} (hs : s ≤ L) (hx : (rdc b L s).1 = false) : (rdc b L s).2.2.2 = 0 ∧ (rdc b L s).2.1 ≤ L + 1 := by
  have h1 := wE_ge (b := b) hs
  unfold rdc at hx ⊢
  have tl : ∀ w g e, e ≤ L → (tailC b L w g e).1 = false → (tailC b L w g e).2.2.2 = 0 ∧ (tailC b L w g e).2.1 ≤ L + 1 := by
    intro w g e he h
    unfold tailC at h ⊢
    split
    · rename_i q
      rw [if_pos q] at h
      split
      · rename_i q2; rw [if_pos q2] at h; cases h
      · exact ⟨rfl, by dsimp only; omega⟩
    · rename_i q; rw [if_neg q] at h; cases h
  split
  · rename_i g hg
    rw [hg] at hx
    exact tl _ _ _ h1.2 hx
  · rename_i hg
    rw [hg] at hx
    dsimp only at hx
    split
    · exact ⟨rfl, by dsimp only; omega⟩
    · rename_i w hw
      rw [hw] at hx
      dsimp only at hx
      split
      · rename_i hb
        rw [if_pos hb] at hx
        have hlt := byt_in (b := b) (L := L) (j := wE b L s) (by omega)
        have h2 := wE_ge (b := b) (L := L) (s := wE b L s + 1) (by omega)
        split
        · rename_i g hg2
          rw [hg2] at hx
          exact tl _ _ _ h2.2 hx
        · exact ⟨rfl, by dsimp only; omega⟩
      · exact ⟨rfl, by dsimp only; omega⟩
def rF1 (x : Bool × Nat × Nat × Nat) : Int32 := match x.1 with
  | true => -1
  | false => nI x.2.1
section RT
variable {rc rf ro rt ru rm rg : Nat → Int32} {rp rq : Int32} {ry rl : Nat → Int32} {rn ra : Int32} {rw rk : Nat → Int64} {rx rz rd : Nat → Int32} {rM rU rK : Int32} {rT rR : Nat → Int32} {rL rN rA rF : Int32} {rC : Nat → Int64} {rO rB rY rP : Nat → Int32} {rb : Int32}
variable {Q : List AE} {b : Nat → Nat} {L : Nat}
theorem m_wordFrom {s : Nat} (hB : By rT L b) (hs : s ≤ L) : Sem mX9_wordFrom 2 0 0 [.ref 100, .int (nI s)] (Q, mW rc rf ro rt ru rm rg rp rq ry rl rn ra rw rk rx rz rd rM rU rK rT rR (nI L) rN rA rF rC rO rB rY rP rb) (some (.int (nI (wE b L s - s)))) (Q, mW rc rf ro rt ru rm rg rp rq ry rl rn ra rw rk rx rz rd rM rU rK rT rR (nI L) rN rA rF rC rO rB rY rP rb) := by
  refine sem_of (by decide) (Nat.le_of_ble_eq_true rfl) rfl ?_
  have h120 := hB.1
  have Lp : ∀ (m n : Nat), s + n + m = L → Rn mX9_wordFrom 2 0 0 (Q, mW rc rf ro rt ru rm rg rp rq ry rl rn ra rw rk rx rz rd rM rU rK rT rR (nI L) rN rA rF rC rO rB rY rP rb) (some (.int (nI (wen b m (s + n) - s)))) (Q, mW rc rf ro rt ru rm rg rp rq ry rl rn ra rw rk rx rz rd rM rU rK rT rR (nI L) rN rA rF rC rO rB rY rP rb) 0 0 2 [some (.ref 100), some (.int (nI s)), some (.int (nI n))] [] (Q, mW rc rf ro rt ru rm rg rp rq ry rl rn ra rw rk rx rz rd rM rU rK rT rR (nI L) rN rA rF rC rO rB rY rP rb) := by
    intro m
    induction m with
    | zero =>
      intro n hn
      refine r_iload_n dX9_wordFrom_2 rfl ?_
      refine r_iload_n dX9_wordFrom_3 rfl ?_
      refine r_iaddN dX9_wordFrom_4 ?_
      refine r_aload_n dX9_wordFrom_5 rfl ?_
      refine r_get dX9_wordFrom_6 fX9_208 rfl rfl ?_
      refine r_pc 9 rfl ?_
      refine r_icmp_geN 36 dX9_wordFrom_9 (by decide) (by omega) (by omega) (fun h9 => ?_) (fun h9 => ?_)
      · refine r_pc 36 rfl ?_
        refine r_iload_n dX9_wordFrom_36 rfl ?_
        exact r_iret dX9_wordFrom_37 rfl (by unfold wen; rw [Nat.add_sub_cancel_left]) rfl
      · exact absurd h9 (by omega)
    | succ m ih =>
      intro n hn
      obtain ⟨e1, b1⟩ := hB.2 (s + n) (by omega)
      unfold wen
      by_cases q : 97 ≤ b (s + n) ∧ b (s + n) ≤ 122
      · rw [if_pos q]
        refine r_iload_n dX9_wordFrom_2 rfl ?_
        refine r_iload_n dX9_wordFrom_3 rfl ?_
        refine r_iaddN dX9_wordFrom_4 ?_
        refine r_aload_n dX9_wordFrom_5 rfl ?_
        refine r_get dX9_wordFrom_6 fX9_208 rfl rfl ?_
        refine r_pc 9 rfl ?_
        refine r_icmp_geN 36 dX9_wordFrom_9 (by decide) (by omega) (by omega) (fun h9 => ?_) (fun h9 => ?_)
        · exact absurd h9 (by omega)
        · refine r_pc 12 rfl ?_
          refine r_aload_n dX9_wordFrom_12 rfl ?_
          refine r_get dX9_wordFrom_13 fX9_109 rfl rfl ?_
          refine r_iload_n dX9_wordFrom_16 rfl ?_
          refine r_iload_n dX9_wordFrom_17 rfl ?_
          refine r_iaddN dX9_wordFrom_18 ?_
          refine r_pc 19 rfl ?_
          refine r_iald dX9_wordFrom_19 rfl rfl (by omega) (by decide) ?_
          refine r_topi _ e1 ?_
          refine r_bipush (v := (nI 97)) dX9_wordFrom_20 (by decide) ?_
          refine r_bipush (v := (nI 122)) dX9_wordFrom_22 (by decide) ?_
          refine r_cS dX9_wordFrom_24 (m_isInN _ (by omega) (by decide) (by decide)) lX9_147 rfl rfl (by decide) ⟨Nat.le_refl _, Nat.le_refl _⟩ (Nat.le_of_ble_eq_true rfl) ?_
          rw [decide_eq_true q]
          refine r_if_eq 36 dX9_wordFrom_27 (by decide) (fun h27 => ?_) (fun h27 => ?_)
          · exact absurd h27 (by decide)
          · refine r_pc 30 rfl ?_
            refine r_inc1 (ls' := [_, _, _]) dX9_wordFrom_30 (by decide) rfl rfl ?_
            refine r_goto 2 dX9_wordFrom_33 (by decide) ?_
            refine r_pc 2 rfl ?_
            exact ih (n + 1) (by omega)
      · rw [if_neg q]
        refine r_iload_n dX9_wordFrom_2 rfl ?_
        refine r_iload_n dX9_wordFrom_3 rfl ?_
        refine r_iaddN dX9_wordFrom_4 ?_
        refine r_aload_n dX9_wordFrom_5 rfl ?_
        refine r_get dX9_wordFrom_6 fX9_208 rfl rfl ?_
        refine r_pc 9 rfl ?_
        refine r_icmp_geN 36 dX9_wordFrom_9 (by decide) (by omega) (by omega) (fun h9 => ?_) (fun h9 => ?_)
        · exact absurd h9 (by omega)
        · refine r_pc 12 rfl ?_
          refine r_aload_n dX9_wordFrom_12 rfl ?_
          refine r_get dX9_wordFrom_13 fX9_109 rfl rfl ?_
          refine r_iload_n dX9_wordFrom_16 rfl ?_
          refine r_iload_n dX9_wordFrom_17 rfl ?_
          refine r_iaddN dX9_wordFrom_18 ?_
          refine r_pc 19 rfl ?_
          refine r_iald dX9_wordFrom_19 rfl rfl (by omega) (by decide) ?_
          refine r_topi _ e1 ?_
          refine r_bipush (v := (nI 97)) dX9_wordFrom_20 (by decide) ?_
          refine r_bipush (v := (nI 122)) dX9_wordFrom_22 (by decide) ?_
          refine r_cS dX9_wordFrom_24 (m_isInN _ (by omega) (by decide) (by decide)) lX9_147 rfl rfl (by decide) ⟨Nat.le_refl _, Nat.le_refl _⟩ (Nat.le_of_ble_eq_true rfl) ?_
          rw [decide_eq_false q]
          refine r_if_eq 36 dX9_wordFrom_27 (by decide) (fun h27 => ?_) (fun h27 => ?_)
          · refine r_pc 36 rfl ?_
            refine r_iload_n dX9_wordFrom_36 rfl ?_
            exact r_iret dX9_wordFrom_37 rfl (by rw [Nat.add_sub_cancel_left]) rfl
          · exact absurd rfl h27
  refine r_iconst (v := (nI 0)) dX9_wordFrom_0 (by decide) ?_
  refine r_istore_n (ls' := [_, _, _]) dX9_wordFrom_1 (by decide) rfl ?_
  refine r_pc 2 rfl ?_
  exact Lp (L - s) 0 (by omega)
theorem m_find {s n a N bs : Nat} {F : Nat → Option Nat} (hB : By rT L b) (hs : s + n ≤ L) (hN : N < 20) (hb : bs + N ≤ 21) (hw : wg (Q, mW rc rf ro rt ru rm rg rp rq ry rl rn ra rw rk rx rz rd rM rU rK rT rR (nI L) rN (nI s) rF rC rO rB rY rP rb) a = some (.inl (3, N, .inr (.inr (.inr (.inr F)))))) (hF : ∀ j, j < N → F j = some (2000 + (bs + j))) : Sem mX9_find 5 0 0 [.ref 100, .ref a, .int (nI n)] (Q, mW rc rf ro rt ru rm rg rp rq ry rl rn ra rw rk rx rz rd rM rU rK rT rR (nI L) rN (nI s) rF rC rO rB rY rP rb) (some (.int (stN (fnd (fun k => iw b (zs (bs + k)) s (s + n)) N 0)))) (Q, mW rc rf ro rt ru rm rg rp rq ry rl rn ra rw rk rx rz rd rM rU rK rT rR (nI L) rN (nI s) rF rC rO rB rY rP rb) := by
  refine sem_of (by decide) (Nat.le_of_ble_eq_true rfl) rfl ?_
  have h120 := hB.1
  have Lp : ∀ (m k : Nat) (x4 x5 : Option Value), k + m = N → Rn mX9_find 5 0 0 (Q, mW rc rf ro rt ru rm rg rp rq ry rl rn ra rw rk rx rz rd rM rU rK rT rR (nI L) rN (nI s) rF rC rO rB rY rP rb) (some (.int (stN (fnd (fun k => iw b (zs (bs + k)) s (s + n)) m k)))) (Q, mW rc rf ro rt ru rm rg rp rq ry rl rn ra rw rk rx rz rd rM rU rK rT rR (nI L) rN (nI s) rF rC rO rB rY rP rb) 0 0 2 [some (.ref 100), some (.ref a), some (.int (nI n)), some (.int (nI k)), x4, x5] [] (Q, mW rc rf ro rt ru rm rg rp rq ry rl rn ra rw rk rx rz rd rM rU rK rT rR (nI L) rN (nI s) rF rC rO rB rY rP rb) := by
    intro m
    induction m with
    | zero =>
      intro k x4 x5 hk
      refine r_iload_n dX9_find_2 rfl ?_
      refine r_aload_n dX9_find_3 rfl ?_
      refine r_alen (v := nI N) dX9_find_4 hw (by decide) rfl ?_
      refine r_icmp_geN 88 dX9_find_5 (by decide) (by omega) (by omega) (fun h5 => ?_) (fun h5 => ?_)
      · refine r_pc 88 rfl ?_
        refine r_bipush (v := (-2)) dX9_find_88 (by decide) ?_
        exact r_iret dX9_find_90 rfl rfl rfl
      · exact absurd h5 (by omega)
    | succ m ih =>
      intro k x4 x5 hk
      have hq := zs_at (bs + k) (by omega)
      have hq8 := zs_12 (bs + k) (by omega)
      unfold fnd
      have K75 : ∀ (bb : Bool) (x5 : Option Value), bb = iw b (zs (bs + k)) s (s + n) → Rn mX9_find 5 0 0 (Q, mW rc rf ro rt ru rm rg rp rq ry rl rn ra rw rk rx rz rd rM rU rK rT rR (nI L) rN (nI s) rF rC rO rB rY rP rb) (some (.int (stN (if iw b (zs (bs + k)) s (s + n) = true then some k else fnd (fun k => iw b (zs (bs + k)) s (s + n)) m (k + 1))))) (Q, mW rc rf ro rt ru rm rg rp rq ry rl rn ra rw rk rx rz rd rM rU rK rT rR (nI L) rN (nI s) rF rC rO rB rY rP rb) 0 0 75 [some (.ref 100), some (.ref a), some (.int (nI n)), some (.int (nI k)), some (.int (bI bb)), x5] [] (Q, mW rc rf ro rt ru rm rg rp rq ry rl rn ra rw rk rx rz rd rM rU rK rT rR (nI L) rN (nI s) rF rC rO rB rY rP rb) := by
        intro bb x5 hbb
        rw [← hbb]
        cases bb with
        | true =>
          rw [if_pos rfl]
          refine r_iload dX9_find_75 rfl ?_
          refine r_if_eq 82 dX9_find_77 (by decide) (fun h77 => ?_) (fun h77 => ?_)
          · exact absurd h77 (by decide)
          · refine r_pc 80 rfl ?_
            refine r_iload_n dX9_find_80 rfl ?_
            exact r_iret dX9_find_81 rfl rfl rfl
        | false =>
          rw [if_neg (by decide)]
          refine r_iload dX9_find_75 rfl ?_
          refine r_if_eq 82 dX9_find_77 (by decide) (fun h77 => ?_) (fun h77 => ?_)
          · refine r_pc 82 rfl ?_
            refine r_inc1 (ls' := [_, _, _, _, _, _]) dX9_find_82 (by decide) rfl rfl ?_
            refine r_goto 2 dX9_find_85 (by decide) ?_
            refine r_pc 2 rfl ?_
            exact ih (k + 1) _ _ (by omega)
          · exact absurd rfl h77
      have D : ∀ (j : Nat), j < 200 → false = iw b (zs (bs + k)) s (s + n) → Rn mX9_find 5 0 0 (Q, mW rc rf ro rt ru rm rg rp rq ry rl rn ra rw rk rx rz rd rM rU rK rT rR (nI L) rN (nI s) rF rC rO rB rY rP rb) (some (.int (stN (if iw b (zs (bs + k)) s (s + n) = true then some k else fnd (fun k => iw b (zs (bs + k)) s (s + n)) m (k + 1))))) (Q, mW rc rf ro rt ru rm rg rp rq ry rl rn ra rw rk rx rz rd rM rU rK rT rR (nI L) rN (nI s) rF rC rO rB rY rP rb) 0 0 28 [some (.ref 100), some (.ref a), some (.int (nI n)), some (.int (nI k)), some (.int (bI false)), some (.int (nI j))] [] (Q, mW rc rf ro rt ru rm rg rp rq ry rl rn ra rw rk rx rz rd rM rU rK rT rR (nI L) rN (nI s) rF rC rO rB rY rP rb) := by
        intro j hj hiw
        refine r_iload dX9_find_28 rfl ?_
        refine r_iload_n dX9_find_30 rfl ?_
        refine r_icmp_geN 75 dX9_find_31 (by decide) (by omega) (by omega) (fun h31 => ?_) (fun h31 => ?_)
        · refine r_pc 75 rfl ?_
          refine r_pc 75 rfl ?_
          exact K75 false _ hiw
        · refine r_pc 34 rfl ?_
          refine r_iload dX9_find_34 rfl ?_
          refine r_if_eq 75 dX9_find_36 (by decide) (fun h36 => ?_) (fun h36 => ?_)
          · refine r_pc 75 rfl ?_
            refine r_pc 75 rfl ?_
            exact K75 false _ hiw
          · exact absurd rfl h36
      by_cases hl : (zs (bs + k)).length = n
      · have J : ∀ (m2 j : Nat), j + m2 = n → weqB b (zs (bs + k)) s j = true → Rn mX9_find 5 0 0 (Q, mW rc rf ro rt ru rm rg rp rq ry rl rn ra rw rk rx rz rd rM rU rK rT rR (nI L) rN (nI s) rF rC rO rB rY rP rb) (some (.int (stN (if iw b (zs (bs + k)) s (s + n) = true then some k else fnd (fun k => iw b (zs (bs + k)) s (s + n)) m (k + 1))))) (Q, mW rc rf ro rt ru rm rg rp rq ry rl rn ra rw rk rx rz rd rM rU rK rT rR (nI L) rN (nI s) rF rC rO rB rY rP rb) 0 0 28 [some (.ref 100), some (.ref a), some (.int (nI n)), some (.int (nI k)), some (.int (bI true)), some (.int (nI j))] [] (Q, mW rc rf ro rt ru rm rg rp rq ry rl rn ra rw rk rx rz rd rM rU rK rT rR (nI L) rN (nI s) rF rC rO rB rY rP rb) := by
          intro m2
          induction m2 with
          | zero =>
            intro j hj hwj
            have hjn : j = (zs (bs + k)).length := by omega
            refine r_iload dX9_find_28 rfl ?_
            refine r_iload_n dX9_find_30 rfl ?_
            refine r_icmp_geN 75 dX9_find_31 (by decide) (by omega) (by omega) (fun h31 => ?_) (fun h31 => ?_)
            · refine r_pc 75 rfl ?_
              refine r_pc 75 rfl ?_
              exact K75 true _ (by unfold iw; rw [← hjn, hwj, decide_eq_true (by omega)]; rfl)
            · exact absurd h31 (by omega)
          | succ m2 ih2 =>
            intro j hj hwj
            have hjl : j < (zs (bs + k)).length := by omega
            obtain ⟨e1, b1⟩ := hB.2 (s + j) (by omega)
            have hc := (zt_small hq).2 j
            by_cases q : (zs (bs + k)).getD j 0 = b (s + j)
            · refine r_iload dX9_find_28 rfl ?_
              refine r_iload_n dX9_find_30 rfl ?_
              refine r_icmp_geN 75 dX9_find_31 (by decide) (by omega) (by omega) (fun h31 => ?_) (fun h31 => ?_)
              · exact absurd h31 (by omega)
              · refine r_pc 34 rfl ?_
                refine r_iload dX9_find_34 rfl ?_
                refine r_if_eq 75 dX9_find_36 (by decide) (fun h36 => ?_) (fun h36 => ?_)
                · exact absurd h36 (by decide)
                · refine r_pc 39 rfl ?_
                  refine r_aload_n dX9_find_39 rfl ?_
                  refine r_iload_n dX9_find_40 rfl ?_
                  refine r_aald dX9_find_41 hw rfl (by omega) (by omega) (hF k (by omega)) ?_
                  refine r_iload dX9_find_42 rfl ?_
                  refine r_cT dX9_find_44 hq (s_charAt _ hq hjl) lX9_215 rfl rfl (by decide) ⟨Nat.le_refl _, Nat.le_refl _⟩ (Nat.le_of_ble_eq_true rfl) ?_
                  refine r_pc 47 rfl ?_
                  refine r_aload_n dX9_find_47 rfl ?_
                  refine r_get dX9_find_48 fX9_109 rfl rfl ?_
                  refine r_aload_n dX9_find_51 rfl ?_
                  refine r_get dX9_find_52 fX9_219 rfl rfl ?_
                  refine r_iload dX9_find_55 rfl ?_
                  refine r_pc 57 rfl ?_
                  refine r_iaddN dX9_find_57 ?_
                  refine r_iald dX9_find_58 rfl rfl (by omega) (by decide) ?_
                  refine r_topi _ e1 ?_
                  refine r_icmp_neN 66 dX9_find_59 (by decide) (by omega) (by omega) (fun h59 => ?_) (fun h59 => ?_)
                  · exact absurd q h59
                  · refine r_pc 62 rfl ?_
                    refine r_iconst (v := (nI 1)) dX9_find_62 (by decide) ?_
                    refine r_goto 67 dX9_find_63 (by decide) ?_
                    refine r_istore (ls' := [_, _, _, _, _, _]) dX9_find_67 (by decide) rfl ?_
                    refine r_inc1 (ls' := [_, _, _, _, _, _]) dX9_find_69 (by decide) rfl rfl ?_
                    refine r_goto 28 dX9_find_72 (by decide) ?_
                    refine r_pc 28 rfl ?_
                    exact ih2 (j + 1) (by omega) (by show (weqB b (zs (bs + k)) s j && _) = true; rw [hwj, q, decide_eq_true rfl]; rfl)
            · have hf := weqB_ge (b := b) (q := zs (bs + k)) (s := s) (i := j) (fun z => q z.symm) m2
              have hiw : false = iw b (zs (bs + k)) s (s + n) := by unfold iw; rw [show (zs (bs + k)).length = j + 1 + m2 by omega, hf, Bool.and_false]
              refine r_iload dX9_find_28 rfl ?_
              refine r_iload_n dX9_find_30 rfl ?_
              refine r_icmp_geN 75 dX9_find_31 (by decide) (by omega) (by omega) (fun h31 => ?_) (fun h31 => ?_)
              · exact absurd h31 (by omega)
              · refine r_pc 34 rfl ?_
                refine r_iload dX9_find_34 rfl ?_
                refine r_if_eq 75 dX9_find_36 (by decide) (fun h36 => ?_) (fun h36 => ?_)
                · exact absurd h36 (by decide)
                · refine r_pc 39 rfl ?_
                  refine r_aload_n dX9_find_39 rfl ?_
                  refine r_iload_n dX9_find_40 rfl ?_
                  refine r_aald dX9_find_41 hw rfl (by omega) (by omega) (hF k (by omega)) ?_
                  refine r_iload dX9_find_42 rfl ?_
                  refine r_cT dX9_find_44 hq (s_charAt _ hq hjl) lX9_215 rfl rfl (by decide) ⟨Nat.le_refl _, Nat.le_refl _⟩ (Nat.le_of_ble_eq_true rfl) ?_
                  refine r_pc 47 rfl ?_
                  refine r_aload_n dX9_find_47 rfl ?_
                  refine r_get dX9_find_48 fX9_109 rfl rfl ?_
                  refine r_aload_n dX9_find_51 rfl ?_
                  refine r_get dX9_find_52 fX9_219 rfl rfl ?_
                  refine r_iload dX9_find_55 rfl ?_
                  refine r_pc 57 rfl ?_
                  refine r_iaddN dX9_find_57 ?_
                  refine r_iald dX9_find_58 rfl rfl (by omega) (by decide) ?_
                  refine r_topi _ e1 ?_
                  refine r_icmp_neN 66 dX9_find_59 (by decide) (by omega) (by omega) (fun h59 => ?_) (fun h59 => ?_)
                  · refine r_pc 66 rfl ?_
                    refine r_iconst (v := (nI 0)) dX9_find_66 (by decide) ?_
                    refine r_istore (ls' := [_, _, _, _, _, _]) dX9_find_67 (by decide) rfl ?_
                    refine r_inc1 (ls' := [_, _, _, _, _, _]) dX9_find_69 (by decide) rfl rfl ?_
                    refine r_goto 28 dX9_find_72 (by decide) ?_
                    refine r_pc 28 rfl ?_
                    exact D (j + 1) (by omega) hiw
                  · exact absurd h59 q
        refine r_iload_n dX9_find_2 rfl ?_
        refine r_aload_n dX9_find_3 rfl ?_
        refine r_alen (v := nI N) dX9_find_4 hw (by decide) rfl ?_
        refine r_icmp_geN 88 dX9_find_5 (by decide) (by omega) (by omega) (fun h5 => ?_) (fun h5 => ?_)
        · exact absurd h5 (by omega)
        · refine r_pc 8 rfl ?_
          refine r_aload_n dX9_find_8 rfl ?_
          refine r_iload_n dX9_find_9 rfl ?_
          refine r_aald dX9_find_10 hw rfl (by omega) (by omega) (hF k (by omega)) ?_
          refine r_cT dX9_find_11 hq (s_strlen _ hq) lX9_211 rfl rfl (by decide) ⟨Nat.le_refl _, Nat.le_refl _⟩ (Nat.le_of_ble_eq_true rfl) ?_
          refine r_iload_n dX9_find_14 rfl ?_
          refine r_pc 15 rfl ?_
          refine r_icmp_neN 22 dX9_find_15 (by decide) (by omega) (by omega) (fun h15 => ?_) (fun h15 => ?_)
          · exact absurd hl h15
          · refine r_pc 18 rfl ?_
            refine r_iconst (v := (nI 1)) dX9_find_18 (by decide) ?_
            refine r_goto 23 dX9_find_19 (by decide) ?_
            refine r_istore (ls' := [_, _, _, _, _, _]) dX9_find_23 (by decide) rfl ?_
            refine r_iconst (v := (nI 0)) dX9_find_25 (by decide) ?_
            refine r_istore (ls' := [_, _, _, _, _, _]) dX9_find_26 (by decide) rfl ?_
            refine r_pc 28 rfl ?_
            refine r_pc 28 rfl ?_
            exact J n 0 (by omega) rfl
      · have hiw : false = iw b (zs (bs + k)) s (s + n) := by unfold iw; rw [decide_eq_false (by omega), Bool.false_and]
        refine r_iload_n dX9_find_2 rfl ?_
        refine r_aload_n dX9_find_3 rfl ?_
        refine r_alen (v := nI N) dX9_find_4 hw (by decide) rfl ?_
        refine r_icmp_geN 88 dX9_find_5 (by decide) (by omega) (by omega) (fun h5 => ?_) (fun h5 => ?_)
        · exact absurd h5 (by omega)
        · refine r_pc 8 rfl ?_
          refine r_aload_n dX9_find_8 rfl ?_
          refine r_iload_n dX9_find_9 rfl ?_
          refine r_aald dX9_find_10 hw rfl (by omega) (by omega) (hF k (by omega)) ?_
          refine r_cT dX9_find_11 hq (s_strlen _ hq) lX9_211 rfl rfl (by decide) ⟨Nat.le_refl _, Nat.le_refl _⟩ (Nat.le_of_ble_eq_true rfl) ?_
          refine r_iload_n dX9_find_14 rfl ?_
          refine r_pc 15 rfl ?_
          refine r_icmp_neN 22 dX9_find_15 (by decide) (by omega) (by omega) (fun h15 => ?_) (fun h15 => ?_)
          · refine r_pc 22 rfl ?_
            refine r_iconst (v := (nI 0)) dX9_find_22 (by decide) ?_
            refine r_istore (ls' := [_, _, _, _, _, _]) dX9_find_23 (by decide) rfl ?_
            refine r_iconst (v := (nI 0)) dX9_find_25 (by decide) ?_
            refine r_istore (ls' := [_, _, _, _, _, _]) dX9_find_26 (by decide) rfl ?_
            refine r_pc 28 rfl ?_
            exact D 0 (by omega) hiw
          · exact absurd h15 hl
  refine r_iconst (v := (nI 0)) dX9_find_0 (by decide) ?_
  refine r_istore_n (ls' := [_, _, _, _, _, _]) dX9_find_1 (by decide) rfl ?_
  refine r_pc 2 rfl ?_
  exact Lp N 0 _ _ (by omega)
theorem m_findW {s n : Nat} (hB : By rT L b) (hs : s + n ≤ L) : Sem mX9_find 5 0 0 [.ref 100, .ref 101, .int (nI n)] (Q, mW rc rf ro rt ru rm rg rp rq ry rl rn ra rw rk rx rz rd rM rU rK rT rR (nI L) rN (nI s) rF rC rO rB rY rP rb) (some (.int (stN (whoN b s (s + n))))) (Q, mW rc rf ro rt ru rm rg rp rq ry rl rn ra rw rk rx rz rd rM rU rK rT rR (nI L) rN (nI s) rF rC rO rB rY rP rb) := by
  have h := m_find (a := 101) (N := 9) (bs := 0) (F := fun j => some (2000 + j)) (rc := rc) (rf := rf) (ro := ro) (rt := rt) (ru := ru) (rm := rm) (rg := rg) (rp := rp) (rq := rq) (ry := ry) (rl := rl) (rn := rn) (ra := ra) (rw := rw) (rk := rk) (rx := rx) (rz := rz) (rd := rd) (rM := rM) (rU := rU) (rK := rK) (rR := rR) (rN := rN) (rF := rF) (rC := rC) (rO := rO) (rB := rB) (rY := rY) (rP := rP) (rb := rb) (Q := Q) hB hs (by decide) (by decide) rfl (fun j _ => by rw [Nat.zero_add])
  simp only [Nat.zero_add] at h
  exact h
theorem m_findF {s n : Nat} (hB : By rT L b) (hs : s + n ≤ L) : Sem mX9_find 5 0 0 [.ref 100, .ref 102, .int (nI n)] (Q, mW rc rf ro rt ru rm rg rp rq ry rl rn ra rw rk rx rz rd rM rU rK rT rR (nI L) rN (nI s) rF rC rO rB rY rP rb) (some (.int (stN (figN b s (s + n))))) (Q, mW rc rf ro rt ru rm rg rp rq ry rl rn ra rw rk rx rz rd rM rU rK rT rR (nI L) rN (nI s) rF rC rO rB rY rP rb) :=
  m_find (a := 102) (N := 12) (bs := 9) (F := fun j => some (2009 + j)) hB hs (by decide) (by decide) rfl (fun j _ => by rw [show 2009 + j = 2000 + (9 + j) by omega])
theorem m_wordN {s n : Nat} (hB : By rT L b) (hs : s ≤ L) (hn : wE b L s = s + n) : Sem mX9_wordFrom 2 0 0 [.ref 100, .int (nI s)] (Q, mW rc rf ro rt ru rm rg rp rq ry rl rn ra rw rk rx rz rd rM rU rK rT rR (nI L) rN rA rF rC rO rB rY rP rb) (some (.int (nI n))) (Q, mW rc rf ro rt ru rm rg rp rq ry rl rn ra rw rk rx rz rd rM rU rK rT rR (nI L) rN rA rF rC rO rB rY rP rb) := by
  have h := m_wordFrom (rc := rc) (rf := rf) (ro := ro) (rt := rt) (ru := ru) (rm := rm) (rg := rg) (rp := rp) (rq := rq) (ry := ry) (rl := rl) (rn := rn) (ra := ra) (rw := rw) (rk := rk) (rx := rx) (rz := rz) (rd := rd) (rM := rM) (rU := rU) (rK := rK) (rR := rR) (rN := rN) (rA := rA) (rF := rF) (rC := rC) (rO := rO) (rB := rB) (rY := rY) (rP := rP) (rb := rb) (Q := Q) hB hs
  rw [hn, Nat.add_sub_cancel_left] at h
  exact h
theorem m_fails {x : Int32} : Sem mX9_fails 1 0 0 [.ref 100, .int x] (Q, mW rc rf ro rt ru rm rg rp rq ry rl rn ra rw rk rx rz rd rM rU rK rT rR rL rN rA (-1) rC rO rB rY rP rb) none (Q, mW rc rf ro rt ru rm rg rp rq ry rl rn ra rw rk rx rz rd rM rU rK rT rR rL rN rA (x) rC rO rB rY rP rb) := by
  refine sem_of (by decide) (Nat.le_of_ble_eq_true rfl) rfl ?_
  refine r_aload_n dX9_fails_0 rfl ?_
  refine r_get dX9_fails_1 fX9_222 rfl rfl ?_
  refine r_if_ge 12 dX9_fails_4 (by decide) (fun h4 => ?_) (fun h4 => ?_)
  · exact absurd h4 (by decide)
  · refine r_pc 7 rfl ?_
    refine r_aload_n dX9_fails_7 rfl ?_
    refine r_iload_n dX9_fails_8 rfl ?_
    refine r_put (w2 := (_, mW _ _ _ _ _ _ _ _ _ _ _ _ _ _ _ _ _ _ _ _ _ _ _ _ _ _ _ _ _ _ _ _ _)) dX9_fails_9 fX9_222 rfl rfl (Nat.le_of_ble_eq_true rfl) (fun _ => rfl) (fun _ => rfl) rfl ?_
    exact r_vret dX9_fails_12 rfl rfl rfl
theorem m_fails1 {x : Int32} {z : Nat} (hz : z < 2 ^ 31) : Sem mX9_fails 1 0 0 [.ref 100, .int x] (Q, mW rc rf ro rt ru rm rg rp rq ry rl rn ra rw rk rx rz rd rM rU rK rT rR rL rN rA (nI z) rC rO rB rY rP rb) none (Q, mW rc rf ro rt ru rm rg rp rq ry rl rn ra rw rk rx rz rd rM rU rK rT rR rL rN rA (nI z) rC rO rB rY rP rb) := by
  refine sem_of (by decide) (Nat.le_of_ble_eq_true rfl) rfl ?_
  refine r_aload_n dX9_fails_0 rfl ?_
  refine r_get dX9_fails_1 fX9_222 rfl rfl ?_
  refine r_if_ge 12 dX9_fails_4 (by decide) (fun h4 => ?_) (fun h4 => ?_)
  · refine r_pc 12 rfl ?_
    exact r_vret dX9_fails_12 rfl rfl rfl
  · exact absurd (nI_pos' hz) h4
theorem m_sees1 {x : Int32} {z : Nat} (hz : z < 2 ^ 31) : Sem mX9_sees 1 0 0 [.ref 100, .int x] (Q, mW rc rf ro rt ru rm rg rp rq ry rl rn ra rw rk rx rz rd rM rU rK rT rR rL rN rA (nI z) rC rO rB rY rP rb) (some (.int (nI 0))) (Q, mW rc rf ro rt ru rm rg rp rq ry rl rn ra rw rk rx rz rd rM rU rK rT rR rL rN rA (nI z) rC rO rB rY rP rb) := by
  refine sem_of (by decide) (Nat.le_of_ble_eq_true rfl) rfl ?_
  refine r_aload_n dX9_sees_0 rfl ?_
  refine r_get dX9_sees_1 fX9_222 rfl rfl ?_
  refine r_if_ge 35 dX9_sees_4 (by decide) (fun h4 => ?_) (fun h4 => ?_)
  · refine r_pc 35 rfl ?_
    refine r_iconst (v := (nI 0)) dX9_sees_35 (by decide) ?_
    exact r_zret dX9_sees_36 rfl rfl rfl rfl
  · exact absurd (nI_pos' hz) h4
theorem m_sees {x s : Nat} (hB : By rT L b) (hx : 0 < x ∧ x < 200) (hs : s < 2 ^ 31) : Sem mX9_sees 1 0 0 [.ref 100, .int (nI x)] (Q, mW rc rf ro rt ru rm rg rp rq ry rl rn ra rw rk rx rz rd rM rU rK rT rR (nI L) rN (nI s) (-1) rC rO rB rY rP rb) (some (.int (bI (decide (byt b L s = x))))) (Q, mW rc rf ro rt ru rm rg rp rq ry rl rn ra rw rk rx rz rd rM rU rK rT rR (nI L) rN (nI s) (-1) rC rO rB rY rP rb) := by
  refine sem_of (by decide) (Nat.le_of_ble_eq_true rfl) rfl ?_
  have h120 := hB.1
  by_cases q : s < L
  · obtain ⟨e1, b1⟩ := hB.2 s q
    have hb : byt b L s = b s := by simp [byt, q]
    rw [hb]
    refine r_aload_n dX9_sees_0 rfl ?_
    refine r_get dX9_sees_1 fX9_222 rfl rfl ?_
    refine r_if_ge 35 dX9_sees_4 (by decide) (fun h4 => ?_) (fun h4 => ?_)
    · exact absurd h4 (by decide)
    · refine r_pc 7 rfl ?_
      refine r_aload_n dX9_sees_7 rfl ?_
      refine r_get dX9_sees_8 fX9_219 rfl rfl ?_
      refine r_aload_n dX9_sees_11 rfl ?_
      refine r_get dX9_sees_12 fX9_208 rfl rfl ?_
      refine r_icmp_geN 35 dX9_sees_15 (by decide) (by omega) (by omega) (fun h15 => ?_) (fun h15 => ?_)
      · exact absurd h15 (by omega)
      · refine r_pc 18 rfl ?_
        refine r_aload_n dX9_sees_18 rfl ?_
        refine r_get dX9_sees_19 fX9_109 rfl rfl ?_
        refine r_aload_n dX9_sees_22 rfl ?_
        refine r_get dX9_sees_23 fX9_219 rfl rfl ?_
        refine r_iald dX9_sees_26 rfl rfl (by omega) (by decide) ?_
        refine r_pc 27 rfl ?_
        refine r_topi _ e1 ?_
        refine r_iload_n dX9_sees_27 rfl ?_
        refine r_icmp_neN 35 dX9_sees_28 (by decide) (by omega) (by omega) (fun h28 => ?_) (fun h28 => ?_)
        · rw [decide_eq_false h28]
          refine r_pc 35 rfl ?_
          refine r_iconst (v := (nI 0)) dX9_sees_35 (by decide) ?_
          exact r_zret dX9_sees_36 rfl rfl rfl rfl
        · rw [decide_eq_true h28]
          refine r_pc 31 rfl ?_
          refine r_iconst (v := (nI 1)) dX9_sees_31 (by decide) ?_
          refine r_goto 36 dX9_sees_32 (by decide) ?_
          exact r_zret dX9_sees_36 rfl rfl rfl rfl
  · have hb : byt b L s = 0 := by simp [byt, q]
    rw [hb, decide_eq_false (by omega)]
    refine r_aload_n dX9_sees_0 rfl ?_
    refine r_get dX9_sees_1 fX9_222 rfl rfl ?_
    refine r_if_ge 35 dX9_sees_4 (by decide) (fun h4 => ?_) (fun h4 => ?_)
    · exact absurd h4 (by decide)
    · refine r_pc 7 rfl ?_
      refine r_aload_n dX9_sees_7 rfl ?_
      refine r_get dX9_sees_8 fX9_219 rfl rfl ?_
      refine r_aload_n dX9_sees_11 rfl ?_
      refine r_get dX9_sees_12 fX9_208 rfl rfl ?_
      refine r_icmp_geN 35 dX9_sees_15 (by decide) (by omega) (by omega) (fun h15 => ?_) (fun h15 => ?_)
      · refine r_pc 35 rfl ?_
        refine r_iconst (v := (nI 0)) dX9_sees_35 (by decide) ?_
        exact r_zret dX9_sees_36 rfl rfl rfl rfl
      · exact absurd h15 (by omega)
theorem m_reads {s : Nat} {l : List Nat} (hB : By rT L b) (hs : s ≤ L) (hl : l.length ≤ s) : Sem mX9_reads 6 0 0 [.ref 100] (Q, mW rc rf ro rt ru rm rg rp rq ry rl rn ra rw rk rx rz rd rM rU rK rT (putL rR l) (nI L) (nI l.length) (nI s) (-1) rC rO rB rY rP rb) none (Q, mW rc rf ro rt ru rm rg rp rq ry rl rn ra rw rk rx rz rd rM rU rK rT (putL rR (l ++ List.replicate (rdc b L s).2.2.2 (rdc b L s).2.2.1)) (nI L) (nI (l.length + (rdc b L s).2.2.2)) (nI (rdc b L s).2.1) (rF1 (rdc b L s)) rC rO rB rY rP rb) := by
  refine sem_of (by decide) (Nat.le_of_ble_eq_true rfl) rfl ?_
  have h120 := hB.1
  have h1 := wE_ge (b := b) hs
  generalize hw0 : (Q, mW rc rf ro rt ru rm rg rp rq ry rl rn ra rw rk rx rz rd rM rU rK rT (putL rR l) (nI L) (nI l.length) (nI s) (-1) rC rO rB rY rP rb) = w0
  have T : ∀ (w g e n : Nat) (y2 : Int32) (x4 x5 : Option Value), (if nI 0 < y2 then y2 else nI 0) = nI w → w < 9 → g < 12 → e ≤ L → l.length + 3 ≤ e → Rn mX9_reads 6 0 0 w0 none (Q, mW rc rf ro rt ru rm rg rp rq ry rl rn ra rw rk rx rz rd rM rU rK rT (putL rR (l ++ List.replicate (tailC b L w g e).2.2.2 (tailC b L w g e).2.2.1)) (nI L) (nI (l.length + (tailC b L w g e).2.2.2)) (nI (tailC b L w g e).2.1) (rF1 (tailC b L w g e)) rC rO rB rY rP rb) 0 0 103 [some (.ref 100), some (.int (nI n)), some (.int y2), some (.int (nI g)), x4, x5] [] (Q, mW rc rf ro rt ru rm rg rp rq ry rl rn ra rw rk rx rz rd rM rU rK rT (putL rR l) (nI L) (nI l.length) (nI e) (-1) rC rO rB rY rP rb) := by
    intro w g e n y2 x4 x5 hmx hw hg he hle
    have A : ∀ (t e2 : Nat) (x5 : Option Value), tailC b L w g e = (true, e2, 100 * w + g, t) → l.length + t ≤ 120 → Rn mX9_reads 6 0 0 w0 none (Q, mW rc rf ro rt ru rm rg rp rq ry rl rn ra rw rk rx rz rd rM rU rK rT (putL rR (l ++ List.replicate (tailC b L w g e).2.2.2 (tailC b L w g e).2.2.1)) (nI L) (nI (l.length + (tailC b L w g e).2.2.2)) (nI (tailC b L w g e).2.1) (rF1 (tailC b L w g e)) rC rO rB rY rP rb) 0 0 188 [some (.ref 100), some (.int (nI n)), some (.int y2), some (.int (nI g)), some (.int (nI t)), x5] [] (Q, mW rc rf ro rt ru rm rg rp rq ry rl rn ra rw rk rx rz rd rM rU rK rT (putL rR l) (nI L) (nI l.length) (nI e2) (-1) rC rO rB rY rP rb) := by
      intro t e2 x5 ht hlt
      rw [ht]
      dsimp only
      have Lp : ∀ (m j : Nat), j + m = t → Rn mX9_reads 6 0 0 w0 none (Q, mW rc rf ro rt ru rm rg rp rq ry rl rn ra rw rk rx rz rd rM rU rK rT (putL rR (l ++ List.replicate t (100 * w + g))) (nI L) (nI (l.length + t)) (nI e2) (rF1 (true, e2, 100 * w + g, t)) rC rO rB rY rP rb) 0 0 191 [some (.ref 100), some (.int (nI n)), some (.int y2), some (.int (nI g)), some (.int (nI t)), some (.int (nI j))] [] (Q, mW rc rf ro rt ru rm rg rp rq ry rl rn ra rw rk rx rz rd rM rU rK rT (putL rR (l ++ List.replicate j (100 * w + g))) (nI L) (nI (l.length + j)) (nI e2) (-1) rC rO rB rY rP rb) := by
        intro m
        induction m with
        | zero =>
          intro j hj
          have : j = t := by omega
          subst this
          refine r_iload dX9_reads_191 rfl ?_
          refine r_iload dX9_reads_193 rfl ?_
          refine r_icmp_geN 233 dX9_reads_195 (by decide) (by omega) (by omega) (fun h195 => ?_) (fun h195 => ?_)
          · refine r_pc 233 rfl ?_
            exact r_vret dX9_reads_233 rfl rfl rfl
          · exact absurd h195 (by omega)
        | succ m ih =>
          intro j hj
          have ih := ih (j + 1) (by omega)
          have e1 : l ++ List.replicate (j + 1) (100 * w + g) = (l ++ List.replicate j (100 * w + g)) ++ [100 * w + g] := by rw [List.append_assoc, ← List.replicate_succ']
          have e2 : (l ++ List.replicate j (100 * w + g)).length = l.length + j := by simp
          rw [e1, ← putL_push, e2] at ih
          refine r_iload dX9_reads_191 rfl ?_
          refine r_iload dX9_reads_193 rfl ?_
          refine r_icmp_geN 233 dX9_reads_195 (by decide) (by omega) (by omega) (fun h195 => ?_) (fun h195 => ?_)
          · exact absurd h195 (by omega)
          · refine r_pc 198 rfl ?_
            refine r_aload_n dX9_reads_198 rfl ?_
            refine r_get dX9_reads_199 fX9_112 rfl rfl ?_
            refine r_aload_n dX9_reads_202 rfl ?_
            refine r_get dX9_reads_203 fX9_239 rfl rfl ?_
            refine r_bipush (v := (nI 100)) dX9_reads_206 (by decide) ?_
            refine r_pc 208 rfl ?_
            refine r_iconst (v := (nI 0)) dX9_reads_208 (by decide) ?_
            refine r_iload_n dX9_reads_209 rfl ?_
            refine r_mmax dX9_reads_210 lk_max (Nat.le_of_ble_eq_true rfl) (Nat.le_of_ble_eq_true rfl) ⟨Nat.le_refl _, Nat.le_refl _⟩ ?_
            refine r_topi _ hmx ?_
            refine r_imulN dX9_reads_213 ?_
            refine r_iload_n dX9_reads_214 rfl ?_
            refine r_pc 215 rfl ?_
            refine r_iaddN dX9_reads_215 ?_
            refine r_iast (w2 := (_, mW _ _ _ _ _ _ _ _ _ _ _ _ _ _ _ _ _ _ _ _ _ _ _ _ _ _ _ _ _ _ _ _ _)) dX9_reads_216 rfl rfl (by omega) (by decide) rfl ?_
            refine r_aload_n dX9_reads_217 rfl ?_
            refine r_dup dX9_reads_218 rfl ?_
            refine r_get dX9_reads_219 fX9_239 rfl rfl ?_
            refine r_pc 222 rfl ?_
            refine r_iconst (v := (nI 1)) dX9_reads_222 (by decide) ?_
            refine r_iaddN dX9_reads_223 ?_
            refine r_put (w2 := (_, mW _ _ _ _ _ _ _ _ _ _ _ _ _ _ _ _ _ _ _ _ _ _ _ _ _ _ _ _ _ _ _ _ _)) dX9_reads_224 fX9_239 rfl rfl (Nat.le_of_ble_eq_true rfl) (fun _ => rfl) (fun _ => rfl) rfl ?_
            refine r_inc1 (ls' := [_, _, _, _, _, _]) dX9_reads_227 (by decide) rfl rfl ?_
            refine r_goto 191 dX9_reads_230 (by decide) ?_
            refine r_pc 191 rfl ?_
            exact ih
      refine r_iconst (v := (nI 0)) dX9_reads_188 (by decide) ?_
      refine r_istore (ls' := [_, _, _, _, _, _]) dX9_reads_189 (by decide) rfl ?_
      refine r_pc 191 rfl ?_
      refine r_w (Q, mW rc rf ro rt ru rm rg rp rq ry rl rn ra rw rk rx rz rd rM rU rK rT (putL rR (l ++ List.replicate 0 (100 * w + g))) (nI L) (nI (l.length + 0)) (nI e2) (-1) rC rO rB rY rP rb) (by simp) ?_
      exact Lp t 0 (by omega)
    have hb1 := byt_lt hB e
    have hb2 := byt_lt hB (e + 1)
    by_cases q1 : byt b L e = 32
    · have hel : e < L := byt_in (b := b) (by omega)
      by_cases q2 : 50 ≤ byt b L (e + 1) ∧ byt b L (e + 1) ≤ 52
      · have hel2 : e + 1 < L := byt_in (b := b) (by omega)
        have hbe : byt b L (e + 1) = b (e + 1) := by simp [byt, hel2]
        obtain ⟨c1, c2⟩ := hB.2 (e + 1) hel2
        have ht : tailC b L w g e = (true, e + 2, 100 * w + g, byt b L (e + 1) - 48) := by simp [tailC, q1, q2]
        rw [hbe] at ht q2
        refine r_iconst (v := (nI 1)) dX9_reads_103 (by decide) ?_
        refine r_istore (ls' := [_, _, _, _, _, _]) dX9_reads_104 (by decide) rfl ?_
        refine r_aload_n dX9_reads_106 rfl ?_
        refine r_bipush (v := (nI 32)) dX9_reads_107 (by decide) ?_
        refine r_cV dX9_reads_109 (m_sees hB (by decide) (by omega)) lX9_232 rfl rfl rfl (by decide) ⟨Nat.le_refl _, Nat.le_refl _⟩ (Nat.le_of_ble_eq_true rfl) ?_
        refine r_pc 112 rfl ?_
        rw [decide_eq_true q1]
        refine r_if_eq 188 dX9_reads_112 (by decide) (fun h112 => ?_) (fun h112 => ?_)
        · exact absurd h112 (by decide)
        · refine r_pc 115 rfl ?_
          refine r_aload_n dX9_reads_115 rfl ?_
          refine r_dup dX9_reads_116 rfl ?_
          refine r_get dX9_reads_117 fX9_219 rfl rfl ?_
          refine r_iconst (v := (nI 1)) dX9_reads_120 (by decide) ?_
          refine r_iaddN dX9_reads_121 ?_
          refine r_pc 122 rfl ?_
          refine r_put (w2 := (_, mW _ _ _ _ _ _ _ _ _ _ _ _ _ _ _ _ _ _ _ _ _ _ _ _ _ _ _ _ _ _ _ _ _)) dX9_reads_122 fX9_219 rfl rfl (Nat.le_of_ble_eq_true rfl) (fun _ => rfl) (fun _ => rfl) rfl ?_
          refine r_aload_n dX9_reads_125 rfl ?_
          refine r_get dX9_reads_126 fX9_219 rfl rfl ?_
          refine r_aload_n dX9_reads_129 rfl ?_
          refine r_get dX9_reads_130 fX9_208 rfl rfl ?_
          refine r_pc 133 rfl ?_
          refine r_icmp_geN 155 dX9_reads_133 (by decide) (by omega) (by omega) (fun h133 => ?_) (fun h133 => ?_)
          · exact absurd h133 (by omega)
          · refine r_pc 136 rfl ?_
            refine r_aload_n dX9_reads_136 rfl ?_
            refine r_get dX9_reads_137 fX9_109 rfl rfl ?_
            refine r_aload_n dX9_reads_140 rfl ?_
            refine r_get dX9_reads_141 fX9_219 rfl rfl ?_
            refine r_iald dX9_reads_144 rfl rfl (by omega) (by decide) ?_
            refine r_pc 145 rfl ?_
            refine r_topi _ c1 ?_
            refine r_bipush (v := (nI 50)) dX9_reads_145 (by decide) ?_
            refine r_bipush (v := (nI 52)) dX9_reads_147 (by decide) ?_
            refine r_cS dX9_reads_149 (m_isInN _ (by omega) (by decide) (by decide)) lX9_147 rfl rfl (by decide) ⟨Nat.le_refl _, Nat.le_refl _⟩ (Nat.le_of_ble_eq_true rfl) ?_
            rw [decide_eq_true q2]
            refine r_if_ne 164 dX9_reads_152 (by decide) (fun h152 => ?_) (fun h152 => ?_)
            · refine r_pc 164 rfl ?_
              refine r_aload_n dX9_reads_164 rfl ?_
              refine r_get dX9_reads_165 fX9_109 rfl rfl ?_
              refine r_aload_n dX9_reads_168 rfl ?_
              refine r_get dX9_reads_169 fX9_219 rfl rfl ?_
              refine r_iald dX9_reads_172 rfl rfl (by omega) (by decide) ?_
              refine r_pc 173 rfl ?_
              refine r_topi _ c1 ?_
              refine r_bipush (v := (nI 48)) dX9_reads_173 (by decide) ?_
              refine r_isubN dX9_reads_175 (by omega) ?_
              refine r_istore (ls' := [_, _, _, _, _, _]) dX9_reads_176 (by decide) rfl ?_
              refine r_aload_n dX9_reads_178 rfl ?_
              refine r_dup dX9_reads_179 rfl ?_
              refine r_pc 180 rfl ?_
              refine r_get dX9_reads_180 fX9_219 rfl rfl ?_
              refine r_iconst (v := (nI 1)) dX9_reads_183 (by decide) ?_
              refine r_iaddN dX9_reads_184 ?_
              refine r_put (w2 := (_, mW _ _ _ _ _ _ _ _ _ _ _ _ _ _ _ _ _ _ _ _ _ _ _ _ _ _ _ _ _ _ _ _ _)) dX9_reads_185 fX9_219 rfl rfl (Nat.le_of_ble_eq_true rfl) (fun _ => rfl) (fun _ => rfl) rfl ?_
              refine r_pc 188 rfl ?_
              exact A _ _ _ ht (by omega)
            · exact absurd h152 (by decide)
      · have ht : tailC b L w g e = (false, e + 1, 0, 0) := by simp [tailC, q1, q2]
        rw [ht]
        dsimp only
        rw [List.replicate_zero, List.append_nil, Nat.add_zero]
        by_cases hel2 : e + 1 < L
        · have hbe : byt b L (e + 1) = b (e + 1) := by simp [byt, hel2]
          obtain ⟨c1, c2⟩ := hB.2 (e + 1) hel2
          rw [hbe] at q2
          refine r_iconst (v := (nI 1)) dX9_reads_103 (by decide) ?_
          refine r_istore (ls' := [_, _, _, _, _, _]) dX9_reads_104 (by decide) rfl ?_
          refine r_aload_n dX9_reads_106 rfl ?_
          refine r_bipush (v := (nI 32)) dX9_reads_107 (by decide) ?_
          refine r_cV dX9_reads_109 (m_sees hB (by decide) (by omega)) lX9_232 rfl rfl rfl (by decide) ⟨Nat.le_refl _, Nat.le_refl _⟩ (Nat.le_of_ble_eq_true rfl) ?_
          refine r_pc 112 rfl ?_
          rw [decide_eq_true q1]
          refine r_if_eq 188 dX9_reads_112 (by decide) (fun h112 => ?_) (fun h112 => ?_)
          · exact absurd h112 (by decide)
          · refine r_pc 115 rfl ?_
            refine r_aload_n dX9_reads_115 rfl ?_
            refine r_dup dX9_reads_116 rfl ?_
            refine r_get dX9_reads_117 fX9_219 rfl rfl ?_
            refine r_iconst (v := (nI 1)) dX9_reads_120 (by decide) ?_
            refine r_iaddN dX9_reads_121 ?_
            refine r_pc 122 rfl ?_
            refine r_put (w2 := (_, mW _ _ _ _ _ _ _ _ _ _ _ _ _ _ _ _ _ _ _ _ _ _ _ _ _ _ _ _ _ _ _ _ _)) dX9_reads_122 fX9_219 rfl rfl (Nat.le_of_ble_eq_true rfl) (fun _ => rfl) (fun _ => rfl) rfl ?_
            refine r_aload_n dX9_reads_125 rfl ?_
            refine r_get dX9_reads_126 fX9_219 rfl rfl ?_
            refine r_aload_n dX9_reads_129 rfl ?_
            refine r_get dX9_reads_130 fX9_208 rfl rfl ?_
            refine r_pc 133 rfl ?_
            refine r_icmp_geN 155 dX9_reads_133 (by decide) (by omega) (by omega) (fun h133 => ?_) (fun h133 => ?_)
            · exact absurd h133 (by omega)
            · refine r_pc 136 rfl ?_
              refine r_aload_n dX9_reads_136 rfl ?_
              refine r_get dX9_reads_137 fX9_109 rfl rfl ?_
              refine r_aload_n dX9_reads_140 rfl ?_
              refine r_get dX9_reads_141 fX9_219 rfl rfl ?_
              refine r_iald dX9_reads_144 rfl rfl (by omega) (by decide) ?_
              refine r_pc 145 rfl ?_
              refine r_topi _ c1 ?_
              refine r_bipush (v := (nI 50)) dX9_reads_145 (by decide) ?_
              refine r_bipush (v := (nI 52)) dX9_reads_147 (by decide) ?_
              refine r_cS dX9_reads_149 (m_isInN _ (by omega) (by decide) (by decide)) lX9_147 rfl rfl (by decide) ⟨Nat.le_refl _, Nat.le_refl _⟩ (Nat.le_of_ble_eq_true rfl) ?_
              rw [decide_eq_false q2]
              refine r_if_ne 164 dX9_reads_152 (by decide) (fun h152 => ?_) (fun h152 => ?_)
              · exact absurd rfl h152
              · refine r_pc 155 rfl ?_
                refine r_aload_n dX9_reads_155 rfl ?_
                refine r_aload_n dX9_reads_156 rfl ?_
                refine r_get dX9_reads_157 fX9_219 rfl rfl ?_
                refine r_cVv dX9_reads_160 m_fails lX9_236 rfl rfl rfl (by decide) ⟨Nat.le_refl _, Nat.le_refl _⟩ (Nat.le_of_ble_eq_true rfl) ?_
                exact r_vret dX9_reads_163 rfl rfl rfl
        · refine r_iconst (v := (nI 1)) dX9_reads_103 (by decide) ?_
          refine r_istore (ls' := [_, _, _, _, _, _]) dX9_reads_104 (by decide) rfl ?_
          refine r_aload_n dX9_reads_106 rfl ?_
          refine r_bipush (v := (nI 32)) dX9_reads_107 (by decide) ?_
          refine r_cV dX9_reads_109 (m_sees hB (by decide) (by omega)) lX9_232 rfl rfl rfl (by decide) ⟨Nat.le_refl _, Nat.le_refl _⟩ (Nat.le_of_ble_eq_true rfl) ?_
          refine r_pc 112 rfl ?_
          rw [decide_eq_true q1]
          refine r_if_eq 188 dX9_reads_112 (by decide) (fun h112 => ?_) (fun h112 => ?_)
          · exact absurd h112 (by decide)
          · refine r_pc 115 rfl ?_
            refine r_aload_n dX9_reads_115 rfl ?_
            refine r_dup dX9_reads_116 rfl ?_
            refine r_get dX9_reads_117 fX9_219 rfl rfl ?_
            refine r_iconst (v := (nI 1)) dX9_reads_120 (by decide) ?_
            refine r_iaddN dX9_reads_121 ?_
            refine r_pc 122 rfl ?_
            refine r_put (w2 := (_, mW _ _ _ _ _ _ _ _ _ _ _ _ _ _ _ _ _ _ _ _ _ _ _ _ _ _ _ _ _ _ _ _ _)) dX9_reads_122 fX9_219 rfl rfl (Nat.le_of_ble_eq_true rfl) (fun _ => rfl) (fun _ => rfl) rfl ?_
            refine r_aload_n dX9_reads_125 rfl ?_
            refine r_get dX9_reads_126 fX9_219 rfl rfl ?_
            refine r_aload_n dX9_reads_129 rfl ?_
            refine r_get dX9_reads_130 fX9_208 rfl rfl ?_
            refine r_pc 133 rfl ?_
            refine r_icmp_geN 155 dX9_reads_133 (by decide) (by omega) (by omega) (fun h133 => ?_) (fun h133 => ?_)
            · refine r_pc 155 rfl ?_
              refine r_aload_n dX9_reads_155 rfl ?_
              refine r_aload_n dX9_reads_156 rfl ?_
              refine r_get dX9_reads_157 fX9_219 rfl rfl ?_
              refine r_cVv dX9_reads_160 m_fails lX9_236 rfl rfl rfl (by decide) ⟨Nat.le_refl _, Nat.le_refl _⟩ (Nat.le_of_ble_eq_true rfl) ?_
              exact r_vret dX9_reads_163 rfl rfl rfl
            · exact absurd h133 (by omega)
    · have ht : tailC b L w g e = (true, e, 100 * w + g, 1) := by simp [tailC, q1]
      refine r_iconst (v := (nI 1)) dX9_reads_103 (by decide) ?_
      refine r_istore (ls' := [_, _, _, _, _, _]) dX9_reads_104 (by decide) rfl ?_
      refine r_aload_n dX9_reads_106 rfl ?_
      refine r_bipush (v := (nI 32)) dX9_reads_107 (by decide) ?_
      refine r_cV dX9_reads_109 (m_sees hB (by decide) (by omega)) lX9_232 rfl rfl rfl (by decide) ⟨Nat.le_refl _, Nat.le_refl _⟩ (Nat.le_of_ble_eq_true rfl) ?_
      refine r_pc 112 rfl ?_
      rw [decide_eq_false q1]
      refine r_if_eq 188 dX9_reads_112 (by decide) (fun h112 => ?_) (fun h112 => ?_)
      · refine r_pc 188 rfl ?_
        refine r_pc 188 rfl ?_
        exact A _ _ _ ht (by omega)
      · exact absurd rfl h112
  subst hw0
  obtain ⟨n, hn⟩ : ∃ n, wE b L s = s + n := ⟨wE b L s - s, by omega⟩
  unfold rdc
  rw [hn] at h1 ⊢
  cases hw : whoN b s (s + n) with
  | none =>
    cases hf : figN b s (s + n) with
    | none =>
      dsimp only
      rw [List.replicate_zero, List.append_nil, Nat.add_zero]
      refine r_aload_n dX9_reads_0 rfl ?_
      refine r_aload_n dX9_reads_1 rfl ?_
      refine r_get dX9_reads_2 fX9_219 rfl rfl ?_
      refine r_cV dX9_reads_5 (m_wordN hB hs hn) lX9_225 rfl rfl rfl (by decide) ⟨Nat.le_refl _, Nat.le_refl _⟩ (Nat.le_of_ble_eq_true rfl) ?_
      refine r_istore_n (ls' := [_, _, _, _, _, _]) dX9_reads_8 (by decide) rfl ?_
      refine r_pc 9 rfl ?_
      refine r_aload_n dX9_reads_9 rfl ?_
      refine r_aload_n dX9_reads_10 rfl ?_
      refine r_get dX9_reads_11 fX9_27 rfl rfl ?_
      refine r_iload_n dX9_reads_14 rfl ?_
      refine r_cV dX9_reads_15 (m_findW hB h1.2) lX9_228 rfl rfl rfl (by decide) ⟨Nat.le_refl _, Nat.le_refl _⟩ (Nat.le_of_ble_eq_true rfl) ?_
      refine r_pc 18 rfl ?_
      rw [hw]
      refine r_istore_n (ls' := [_, _, _, _, _, _]) dX9_reads_18 (by decide) rfl ?_
      refine r_iload_n dX9_reads_19 rfl ?_
      refine r_if_lt 70 dX9_reads_20 (by decide) (fun h20 => ?_) (fun h20 => ?_)
      · refine r_pc 70 rfl ?_
        refine r_aload_n dX9_reads_70 rfl ?_
        refine r_aload_n dX9_reads_71 rfl ?_
        refine r_get dX9_reads_72 fX9_57 rfl rfl ?_
        refine r_iload_n dX9_reads_75 rfl ?_
        refine r_cV dX9_reads_76 (m_findF hB h1.2) lX9_228 rfl rfl rfl (by decide) ⟨Nat.le_refl _, Nat.le_refl _⟩ (Nat.le_of_ble_eq_true rfl) ?_
        refine r_pc 79 rfl ?_
        rw [hf]
        refine r_istore_n (ls' := [_, _, _, _, _, _]) dX9_reads_79 (by decide) rfl ?_
        refine r_iload_n dX9_reads_80 rfl ?_
        refine r_if_ge 93 dX9_reads_81 (by decide) (fun h81 => ?_) (fun h81 => ?_)
        · exact absurd h81 (by decide)
        · refine r_pc 84 rfl ?_
          refine r_aload_n dX9_reads_84 rfl ?_
          refine r_aload_n dX9_reads_85 rfl ?_
          refine r_get dX9_reads_86 fX9_219 rfl rfl ?_
          refine r_cVv dX9_reads_89 m_fails lX9_236 rfl rfl rfl (by decide) ⟨Nat.le_refl _, Nat.le_refl _⟩ (Nat.le_of_ble_eq_true rfl) ?_
          exact r_vret dX9_reads_92 rfl rfl rfl
      · exact absurd (by decide) h20
    | some g =>
      obtain ⟨g1, g2⟩ := figN_at hf
      dsimp only
      refine r_aload_n dX9_reads_0 rfl ?_
      refine r_aload_n dX9_reads_1 rfl ?_
      refine r_get dX9_reads_2 fX9_219 rfl rfl ?_
      refine r_cV dX9_reads_5 (m_wordN hB hs hn) lX9_225 rfl rfl rfl (by decide) ⟨Nat.le_refl _, Nat.le_refl _⟩ (Nat.le_of_ble_eq_true rfl) ?_
      refine r_istore_n (ls' := [_, _, _, _, _, _]) dX9_reads_8 (by decide) rfl ?_
      refine r_pc 9 rfl ?_
      refine r_aload_n dX9_reads_9 rfl ?_
      refine r_aload_n dX9_reads_10 rfl ?_
      refine r_get dX9_reads_11 fX9_27 rfl rfl ?_
      refine r_iload_n dX9_reads_14 rfl ?_
      refine r_cV dX9_reads_15 (m_findW hB h1.2) lX9_228 rfl rfl rfl (by decide) ⟨Nat.le_refl _, Nat.le_refl _⟩ (Nat.le_of_ble_eq_true rfl) ?_
      refine r_pc 18 rfl ?_
      rw [hw]
      refine r_istore_n (ls' := [_, _, _, _, _, _]) dX9_reads_18 (by decide) rfl ?_
      refine r_iload_n dX9_reads_19 rfl ?_
      refine r_if_lt 70 dX9_reads_20 (by decide) (fun h20 => ?_) (fun h20 => ?_)
      · refine r_pc 70 rfl ?_
        refine r_aload_n dX9_reads_70 rfl ?_
        refine r_aload_n dX9_reads_71 rfl ?_
        refine r_get dX9_reads_72 fX9_57 rfl rfl ?_
        refine r_iload_n dX9_reads_75 rfl ?_
        refine r_cV dX9_reads_76 (m_findF hB h1.2) lX9_228 rfl rfl rfl (by decide) ⟨Nat.le_refl _, Nat.le_refl _⟩ (Nat.le_of_ble_eq_true rfl) ?_
        refine r_pc 79 rfl ?_
        rw [hf]
        refine r_istore_n (ls' := [_, _, _, _, _, _]) dX9_reads_79 (by decide) rfl ?_
        refine r_iload_n dX9_reads_80 rfl ?_
        refine r_if_ge 93 dX9_reads_81 (by decide) (fun h81 => ?_) (fun h81 => ?_)
        · refine r_pc 93 rfl ?_
          refine r_aload_n dX9_reads_93 rfl ?_
          refine r_dup dX9_reads_94 rfl ?_
          refine r_get dX9_reads_95 fX9_219 rfl rfl ?_
          refine r_iload_n dX9_reads_98 rfl ?_
          refine r_iaddN dX9_reads_99 ?_
          refine r_pc 100 rfl ?_
          refine r_put (w2 := (_, mW _ _ _ _ _ _ _ _ _ _ _ _ _ _ _ _ _ _ _ _ _ _ _ _ _ _ _ _ _ _ _ _ _)) dX9_reads_100 fX9_219 rfl rfl (Nat.le_of_ble_eq_true rfl) (fun _ => rfl) (fun _ => rfl) rfl ?_
          refine r_pc 103 rfl ?_
          exact T 0 g (s + n) _ _ _ _ rfl (by decide) g1 h1.2 (by omega)
        · exact absurd (nI_pos' (by omega)) h81
      · exact absurd (by decide) h20
  | some w =>
    obtain ⟨w1, w2⟩ := whoN_at hw
    have hf : figN b s (s + n) = none := by
      cases hf : figN b s (s + n) with
      | none => rfl
      | some g => exact (who_fig hw hf).elim
    rw [hf]
    dsimp only
    by_cases q1 : byt b L (s + n) = 32
    · rw [if_pos q1]
      have hel : s + n < L := byt_in (b := b) (by omega)
      have h2 := wE_ge (b := b) (L := L) (s := s + n + 1) (by omega)
      obtain ⟨n2, hn2⟩ : ∃ n2, wE b L (s + n + 1) = s + n + 1 + n2 := ⟨wE b L (s + n + 1) - (s + n + 1), by omega⟩
      rw [hn2] at h2 ⊢
      have hmx : (if nI 0 < nI w then nI w else nI 0) = nI w := by
        split
        · rfl
        · rename_i z
          rw [nI_ltI (by decide) (by omega)] at z
          rw [show w = 0 by omega]
      cases hf2 : figN b (s + n + 1) (s + n + 1 + n2) with
      | none =>
        dsimp only
        rw [List.replicate_zero, List.append_nil, Nat.add_zero]
        refine r_aload_n dX9_reads_0 rfl ?_
        refine r_aload_n dX9_reads_1 rfl ?_
        refine r_get dX9_reads_2 fX9_219 rfl rfl ?_
        refine r_cV dX9_reads_5 (m_wordN hB hs hn) lX9_225 rfl rfl rfl (by decide) ⟨Nat.le_refl _, Nat.le_refl _⟩ (Nat.le_of_ble_eq_true rfl) ?_
        refine r_istore_n (ls' := [_, _, _, _, _, _]) dX9_reads_8 (by decide) rfl ?_
        refine r_pc 9 rfl ?_
        refine r_aload_n dX9_reads_9 rfl ?_
        refine r_aload_n dX9_reads_10 rfl ?_
        refine r_get dX9_reads_11 fX9_27 rfl rfl ?_
        refine r_iload_n dX9_reads_14 rfl ?_
        refine r_cV dX9_reads_15 (m_findW hB h1.2) lX9_228 rfl rfl rfl (by decide) ⟨Nat.le_refl _, Nat.le_refl _⟩ (Nat.le_of_ble_eq_true rfl) ?_
        refine r_pc 18 rfl ?_
        rw [hw]
        refine r_istore_n (ls' := [_, _, _, _, _, _]) dX9_reads_18 (by decide) rfl ?_
        refine r_iload_n dX9_reads_19 rfl ?_
        refine r_if_lt 70 dX9_reads_20 (by decide) (fun h20 => ?_) (fun h20 => ?_)
        · exact absurd h20 (nI_pos (by omega))
        · refine r_pc 23 rfl ?_
          refine r_aload_n dX9_reads_23 rfl ?_
          refine r_dup dX9_reads_24 rfl ?_
          refine r_get dX9_reads_25 fX9_219 rfl rfl ?_
          refine r_iload_n dX9_reads_28 rfl ?_
          refine r_iaddN dX9_reads_29 ?_
          refine r_pc 30 rfl ?_
          refine r_put (w2 := (_, mW _ _ _ _ _ _ _ _ _ _ _ _ _ _ _ _ _ _ _ _ _ _ _ _ _ _ _ _ _ _ _ _ _)) dX9_reads_30 fX9_219 rfl rfl (Nat.le_of_ble_eq_true rfl) (fun _ => rfl) (fun _ => rfl) rfl ?_
          refine r_aload_n dX9_reads_33 rfl ?_
          refine r_bipush (v := (nI 32)) dX9_reads_34 (by decide) ?_
          refine r_cV dX9_reads_36 (m_sees hB (by decide) (by omega)) lX9_232 rfl rfl rfl (by decide) ⟨Nat.le_refl _, Nat.le_refl _⟩ (Nat.le_of_ble_eq_true rfl) ?_
          rw [decide_eq_true q1]
          refine r_if_ne 51 dX9_reads_39 (by decide) (fun h39 => ?_) (fun h39 => ?_)
          · refine r_pc 51 rfl ?_
            refine r_aload_n dX9_reads_51 rfl ?_
            refine r_dup dX9_reads_52 rfl ?_
            refine r_get dX9_reads_53 fX9_219 rfl rfl ?_
            refine r_iconst (v := (nI 1)) dX9_reads_56 (by decide) ?_
            refine r_iaddN dX9_reads_57 ?_
            refine r_pc 58 rfl ?_
            refine r_put (w2 := (_, mW _ _ _ _ _ _ _ _ _ _ _ _ _ _ _ _ _ _ _ _ _ _ _ _ _ _ _ _ _ _ _ _ _)) dX9_reads_58 fX9_219 rfl rfl (Nat.le_of_ble_eq_true rfl) (fun _ => rfl) (fun _ => rfl) rfl ?_
            refine r_aload_n dX9_reads_61 rfl ?_
            refine r_aload_n dX9_reads_62 rfl ?_
            refine r_get dX9_reads_63 fX9_219 rfl rfl ?_
            refine r_cV dX9_reads_66 (m_wordN hB hel hn2) lX9_225 rfl rfl rfl (by decide) ⟨Nat.le_refl _, Nat.le_refl _⟩ (Nat.le_of_ble_eq_true rfl) ?_
            refine r_pc 69 rfl ?_
            refine r_istore_n (ls' := [_, _, _, _, _, _]) dX9_reads_69 (by decide) rfl ?_
            refine r_aload_n dX9_reads_70 rfl ?_
            refine r_aload_n dX9_reads_71 rfl ?_
            refine r_get dX9_reads_72 fX9_57 rfl rfl ?_
            refine r_iload_n dX9_reads_75 rfl ?_
            refine r_pc 76 rfl ?_
            refine r_cV dX9_reads_76 (m_findF hB h2.2) lX9_228 rfl rfl rfl (by decide) ⟨Nat.le_refl _, Nat.le_refl _⟩ (Nat.le_of_ble_eq_true rfl) ?_
            rw [hf2]
            refine r_istore_n (ls' := [_, _, _, _, _, _]) dX9_reads_79 (by decide) rfl ?_
            refine r_iload_n dX9_reads_80 rfl ?_
            refine r_if_ge 93 dX9_reads_81 (by decide) (fun h81 => ?_) (fun h81 => ?_)
            · exact absurd h81 (by decide)
            · refine r_pc 84 rfl ?_
              refine r_aload_n dX9_reads_84 rfl ?_
              refine r_aload_n dX9_reads_85 rfl ?_
              refine r_get dX9_reads_86 fX9_219 rfl rfl ?_
              refine r_cVv dX9_reads_89 m_fails lX9_236 rfl rfl rfl (by decide) ⟨Nat.le_refl _, Nat.le_refl _⟩ (Nat.le_of_ble_eq_true rfl) ?_
              exact r_vret dX9_reads_92 rfl rfl rfl
          · exact absurd h39 (by decide)
      | some g =>
        obtain ⟨g1, g2⟩ := figN_at hf2
        dsimp only
        refine r_aload_n dX9_reads_0 rfl ?_
        refine r_aload_n dX9_reads_1 rfl ?_
        refine r_get dX9_reads_2 fX9_219 rfl rfl ?_
        refine r_cV dX9_reads_5 (m_wordN hB hs hn) lX9_225 rfl rfl rfl (by decide) ⟨Nat.le_refl _, Nat.le_refl _⟩ (Nat.le_of_ble_eq_true rfl) ?_
        refine r_istore_n (ls' := [_, _, _, _, _, _]) dX9_reads_8 (by decide) rfl ?_
        refine r_pc 9 rfl ?_
        refine r_aload_n dX9_reads_9 rfl ?_
        refine r_aload_n dX9_reads_10 rfl ?_
        refine r_get dX9_reads_11 fX9_27 rfl rfl ?_
        refine r_iload_n dX9_reads_14 rfl ?_
        refine r_cV dX9_reads_15 (m_findW hB h1.2) lX9_228 rfl rfl rfl (by decide) ⟨Nat.le_refl _, Nat.le_refl _⟩ (Nat.le_of_ble_eq_true rfl) ?_
        refine r_pc 18 rfl ?_
        rw [hw]
        refine r_istore_n (ls' := [_, _, _, _, _, _]) dX9_reads_18 (by decide) rfl ?_
        refine r_iload_n dX9_reads_19 rfl ?_
        refine r_if_lt 70 dX9_reads_20 (by decide) (fun h20 => ?_) (fun h20 => ?_)
        · exact absurd h20 (nI_pos (by omega))
        · refine r_pc 23 rfl ?_
          refine r_aload_n dX9_reads_23 rfl ?_
          refine r_dup dX9_reads_24 rfl ?_
          refine r_get dX9_reads_25 fX9_219 rfl rfl ?_
          refine r_iload_n dX9_reads_28 rfl ?_
          refine r_iaddN dX9_reads_29 ?_
          refine r_pc 30 rfl ?_
          refine r_put (w2 := (_, mW _ _ _ _ _ _ _ _ _ _ _ _ _ _ _ _ _ _ _ _ _ _ _ _ _ _ _ _ _ _ _ _ _)) dX9_reads_30 fX9_219 rfl rfl (Nat.le_of_ble_eq_true rfl) (fun _ => rfl) (fun _ => rfl) rfl ?_
          refine r_aload_n dX9_reads_33 rfl ?_
          refine r_bipush (v := (nI 32)) dX9_reads_34 (by decide) ?_
          refine r_cV dX9_reads_36 (m_sees hB (by decide) (by omega)) lX9_232 rfl rfl rfl (by decide) ⟨Nat.le_refl _, Nat.le_refl _⟩ (Nat.le_of_ble_eq_true rfl) ?_
          rw [decide_eq_true q1]
          refine r_if_ne 51 dX9_reads_39 (by decide) (fun h39 => ?_) (fun h39 => ?_)
          · refine r_pc 51 rfl ?_
            refine r_aload_n dX9_reads_51 rfl ?_
            refine r_dup dX9_reads_52 rfl ?_
            refine r_get dX9_reads_53 fX9_219 rfl rfl ?_
            refine r_iconst (v := (nI 1)) dX9_reads_56 (by decide) ?_
            refine r_iaddN dX9_reads_57 ?_
            refine r_pc 58 rfl ?_
            refine r_put (w2 := (_, mW _ _ _ _ _ _ _ _ _ _ _ _ _ _ _ _ _ _ _ _ _ _ _ _ _ _ _ _ _ _ _ _ _)) dX9_reads_58 fX9_219 rfl rfl (Nat.le_of_ble_eq_true rfl) (fun _ => rfl) (fun _ => rfl) rfl ?_
            refine r_aload_n dX9_reads_61 rfl ?_
            refine r_aload_n dX9_reads_62 rfl ?_
            refine r_get dX9_reads_63 fX9_219 rfl rfl ?_
            refine r_cV dX9_reads_66 (m_wordN hB hel hn2) lX9_225 rfl rfl rfl (by decide) ⟨Nat.le_refl _, Nat.le_refl _⟩ (Nat.le_of_ble_eq_true rfl) ?_
            refine r_pc 69 rfl ?_
            refine r_istore_n (ls' := [_, _, _, _, _, _]) dX9_reads_69 (by decide) rfl ?_
            refine r_aload_n dX9_reads_70 rfl ?_
            refine r_aload_n dX9_reads_71 rfl ?_
            refine r_get dX9_reads_72 fX9_57 rfl rfl ?_
            refine r_iload_n dX9_reads_75 rfl ?_
            refine r_pc 76 rfl ?_
            refine r_cV dX9_reads_76 (m_findF hB h2.2) lX9_228 rfl rfl rfl (by decide) ⟨Nat.le_refl _, Nat.le_refl _⟩ (Nat.le_of_ble_eq_true rfl) ?_
            rw [hf2]
            refine r_istore_n (ls' := [_, _, _, _, _, _]) dX9_reads_79 (by decide) rfl ?_
            refine r_iload_n dX9_reads_80 rfl ?_
            refine r_if_ge 93 dX9_reads_81 (by decide) (fun h81 => ?_) (fun h81 => ?_)
            · refine r_pc 93 rfl ?_
              refine r_aload_n dX9_reads_93 rfl ?_
              refine r_dup dX9_reads_94 rfl ?_
              refine r_get dX9_reads_95 fX9_219 rfl rfl ?_
              refine r_iload_n dX9_reads_98 rfl ?_
              refine r_iaddN dX9_reads_99 ?_
              refine r_pc 100 rfl ?_
              refine r_put (w2 := (_, mW _ _ _ _ _ _ _ _ _ _ _ _ _ _ _ _ _ _ _ _ _ _ _ _ _ _ _ _ _ _ _ _ _)) dX9_reads_100 fX9_219 rfl rfl (Nat.le_of_ble_eq_true rfl) (fun _ => rfl) (fun _ => rfl) rfl ?_
              refine r_pc 103 rfl ?_
              exact T w g (s + n + 1 + n2) _ _ _ _ hmx w1 g1 h2.2 (by omega)
            · exact absurd (nI_pos' (by omega)) h81
          · exact absurd h39 (by decide)
    · rw [if_neg q1]
      dsimp only
      rw [List.replicate_zero, List.append_nil, Nat.add_zero]
      refine r_aload_n dX9_reads_0 rfl ?_
      refine r_aload_n dX9_reads_1 rfl ?_
      refine r_get dX9_reads_2 fX9_219 rfl rfl ?_
      refine r_cV dX9_reads_5 (m_wordN hB hs hn) lX9_225 rfl rfl rfl (by decide) ⟨Nat.le_refl _, Nat.le_refl _⟩ (Nat.le_of_ble_eq_true rfl) ?_
      refine r_istore_n (ls' := [_, _, _, _, _, _]) dX9_reads_8 (by decide) rfl ?_
      refine r_pc 9 rfl ?_
      refine r_aload_n dX9_reads_9 rfl ?_
      refine r_aload_n dX9_reads_10 rfl ?_
      refine r_get dX9_reads_11 fX9_27 rfl rfl ?_
      refine r_iload_n dX9_reads_14 rfl ?_
      refine r_cV dX9_reads_15 (m_findW hB h1.2) lX9_228 rfl rfl rfl (by decide) ⟨Nat.le_refl _, Nat.le_refl _⟩ (Nat.le_of_ble_eq_true rfl) ?_
      refine r_pc 18 rfl ?_
      rw [hw]
      refine r_istore_n (ls' := [_, _, _, _, _, _]) dX9_reads_18 (by decide) rfl ?_
      refine r_iload_n dX9_reads_19 rfl ?_
      refine r_if_lt 70 dX9_reads_20 (by decide) (fun h20 => ?_) (fun h20 => ?_)
      · exact absurd h20 (nI_pos (by omega))
      · refine r_pc 23 rfl ?_
        refine r_aload_n dX9_reads_23 rfl ?_
        refine r_dup dX9_reads_24 rfl ?_
        refine r_get dX9_reads_25 fX9_219 rfl rfl ?_
        refine r_iload_n dX9_reads_28 rfl ?_
        refine r_iaddN dX9_reads_29 ?_
        refine r_pc 30 rfl ?_
        refine r_put (w2 := (_, mW _ _ _ _ _ _ _ _ _ _ _ _ _ _ _ _ _ _ _ _ _ _ _ _ _ _ _ _ _ _ _ _ _)) dX9_reads_30 fX9_219 rfl rfl (Nat.le_of_ble_eq_true rfl) (fun _ => rfl) (fun _ => rfl) rfl ?_
        refine r_aload_n dX9_reads_33 rfl ?_
        refine r_bipush (v := (nI 32)) dX9_reads_34 (by decide) ?_
        refine r_cV dX9_reads_36 (m_sees hB (by decide) (by omega)) lX9_232 rfl rfl rfl (by decide) ⟨Nat.le_refl _, Nat.le_refl _⟩ (Nat.le_of_ble_eq_true rfl) ?_
        rw [decide_eq_false q1]
        refine r_if_ne 51 dX9_reads_39 (by decide) (fun h39 => ?_) (fun h39 => ?_)
        · exact absurd rfl h39
        · refine r_pc 42 rfl ?_
          refine r_aload_n dX9_reads_42 rfl ?_
          refine r_aload_n dX9_reads_43 rfl ?_
          refine r_get dX9_reads_44 fX9_219 rfl rfl ?_
          refine r_cVv dX9_reads_47 m_fails lX9_236 rfl rfl rfl (by decide) ⟨Nat.le_refl _, Nat.le_refl _⟩ (Nat.le_of_ble_eq_true rfl) ?_
          exact r_vret dX9_reads_50 rfl rfl rfl
def endT (b : Nat → Nat) (L : Nat) (x : Option Nat × List Nat) : Nat := match x.1 with
  | none => L
  | some z => z
theorem m_isText (hB : By rT L b) : Sem mX9_isText 7 0 0 [.ref 100] (Q, mW rc rf ro rt ru rm rg rp rq ry rl rn ra rw rk rx rz rd rM rU rK rT rR (nI L) rN rA rF rC rO rB rY rP rb) (some (.int (bI (rtx b L 121 0 []).1.isNone))) (Q, mW rc rf ro rt ru rm rg rp rq ry rl rn ra rw rk rx rz rd rM rU rK rT (putL rR (rtx b L 121 0 []).2) (nI 0) (nI (rtx b L 121 0 []).2.length) (nI (endT b L (rtx b L 121 0 []))) (stI (rtx b L 121 0 []).1) rC rO rB rY rP rb) := by
  refine sem_of (by decide) (Nat.le_of_ble_eq_true rfl) rfl ?_
  have h120 := hB.1
  generalize hw0 : (Q, mW rc rf ro rt ru rm rg rp rq ry rl rn ra rw rk rx rz rd rM rU rK rT rR (nI L) rN rA rF rC rO rB rY rP rb) = w0
  have len : ∀ (l : List Nat) (t x : Nat), (l ++ List.replicate t x).length = l.length + t := fun l t x => by simp
  have Lp : ∀ (m s : Nat) (l : List Nat), 121 ≤ s + m → s ≤ L → l.length ≤ s → Rn mX9_isText 7 0 0 w0 (some (.int (bI (rtx b L m s l).1.isNone))) (Q, mW rc rf ro rt ru rm rg rp rq ry rl rn ra rw rk rx rz rd rM rU rK rT (putL rR (rtx b L m s l).2) (nI 0) (nI (rtx b L m s l).2.length) (nI (endT b L (rtx b L m s l))) (stI (rtx b L m s l).1) rC rO rB rY rP rb) 0 0 19 [some (.ref 100)] [] (Q, mW rc rf ro rt ru rm rg rp rq ry rl rn ra rw rk rx rz rd rM rU rK rT (putL rR (l ++ List.replicate (rdc b L s).2.2.2 (rdc b L s).2.2.1)) (nI L) (nI (l.length + (rdc b L s).2.2.2)) (nI (rdc b L s).2.1) (rF1 (rdc b L s)) rC rO rB rY rP rb) := by
    intro m
    induction m with
    | zero => intro s l h1 h2; exact absurd h1 (by omega)
    | succ m ih =>
      intro s l hm hs hl
      unfold rtx
      cases hx : (rdc b L s).1 with
      | false =>
        obtain ⟨hz, hz2⟩ := rdc_no hs hx
        have hr : rF1 (rdc b L s) = nI (rdc b L s).2.1 := by rw [rF1, hx]
        rw [hr, hz, List.replicate_zero, List.append_nil, Nat.add_zero]
        dsimp only
        by_cases q : (rdc b L s).2.1 < L
        · refine r_aload_n dX9_isText_19 rfl ?_
          refine r_bipush (v := (nI 44)) dX9_isText_20 (by decide) ?_
          refine r_cV dX9_isText_22 (m_sees1 (by omega)) lX9_232 rfl rfl rfl (by decide) ⟨Nat.le_refl _, Nat.le_refl _⟩ (Nat.le_of_ble_eq_true rfl) ?_
          refine r_if_eq 45 dX9_isText_25 (by decide) (fun h25 => ?_) (fun h25 => ?_)
          · refine r_pc 45 rfl ?_
            refine r_aload_n dX9_isText_45 rfl ?_
            refine r_get dX9_isText_46 fX9_219 rfl rfl ?_
            refine r_aload_n dX9_isText_49 rfl ?_
            refine r_get dX9_isText_50 fX9_208 rfl rfl ?_
            refine r_icmp_geN 64 dX9_isText_53 (by decide) (by omega) (by omega) (fun h53 => ?_) (fun h53 => ?_)
            · exact absurd h53 (by omega)
            · refine r_pc 56 rfl ?_
              refine r_aload_n dX9_isText_56 rfl ?_
              refine r_aload_n dX9_isText_57 rfl ?_
              refine r_get dX9_isText_58 fX9_219 rfl rfl ?_
              refine r_cVv dX9_isText_61 (m_fails1 (by omega)) lX9_236 rfl rfl rfl (by decide) ⟨Nat.le_refl _, Nat.le_refl _⟩ (Nat.le_of_ble_eq_true rfl) ?_
              refine r_aload_n dX9_isText_64 rfl ?_
              refine r_pc 65 rfl ?_
              refine r_iconst (v := (nI 0)) dX9_isText_65 (by decide) ?_
              refine r_put (w2 := (_, mW _ _ _ _ _ _ _ _ _ _ _ _ _ _ _ _ _ _ _ _ _ _ _ _ _ _ _ _ _ _ _ _ _)) dX9_isText_66 fX9_208 rfl rfl (Nat.le_of_ble_eq_true rfl) (fun _ => rfl) (fun _ => rfl) rfl ?_
              refine r_aload_n dX9_isText_69 rfl ?_
              refine r_get dX9_isText_70 fX9_222 rfl rfl ?_
              refine r_if_ge 80 dX9_isText_73 (by decide) (fun h73 => ?_) (fun h73 => ?_)
              · refine r_pc 80 rfl ?_
                refine r_iconst (v := (nI 0)) dX9_isText_80 (by decide) ?_
                exact r_zret dX9_isText_81 rfl rfl rfl rfl
              · exact absurd (nI_pos' (by omega)) h73
          · exact absurd rfl h25
        · refine r_aload_n dX9_isText_19 rfl ?_
          refine r_bipush (v := (nI 44)) dX9_isText_20 (by decide) ?_
          refine r_cV dX9_isText_22 (m_sees1 (by omega)) lX9_232 rfl rfl rfl (by decide) ⟨Nat.le_refl _, Nat.le_refl _⟩ (Nat.le_of_ble_eq_true rfl) ?_
          refine r_if_eq 45 dX9_isText_25 (by decide) (fun h25 => ?_) (fun h25 => ?_)
          · refine r_pc 45 rfl ?_
            refine r_aload_n dX9_isText_45 rfl ?_
            refine r_get dX9_isText_46 fX9_219 rfl rfl ?_
            refine r_aload_n dX9_isText_49 rfl ?_
            refine r_get dX9_isText_50 fX9_208 rfl rfl ?_
            refine r_icmp_geN 64 dX9_isText_53 (by decide) (by omega) (by omega) (fun h53 => ?_) (fun h53 => ?_)
            · refine r_pc 64 rfl ?_
              refine r_aload_n dX9_isText_64 rfl ?_
              refine r_iconst (v := (nI 0)) dX9_isText_65 (by decide) ?_
              refine r_put (w2 := (_, mW _ _ _ _ _ _ _ _ _ _ _ _ _ _ _ _ _ _ _ _ _ _ _ _ _ _ _ _ _ _ _ _ _)) dX9_isText_66 fX9_208 rfl rfl (Nat.le_of_ble_eq_true rfl) (fun _ => rfl) (fun _ => rfl) rfl ?_
              refine r_aload_n dX9_isText_69 rfl ?_
              refine r_get dX9_isText_70 fX9_222 rfl rfl ?_
              refine r_pc 73 rfl ?_
              refine r_if_ge 80 dX9_isText_73 (by decide) (fun h73 => ?_) (fun h73 => ?_)
              · refine r_pc 80 rfl ?_
                refine r_iconst (v := (nI 0)) dX9_isText_80 (by decide) ?_
                exact r_zret dX9_isText_81 rfl rfl rfl rfl
              · exact absurd (nI_pos' (by omega)) h73
            · exact absurd h53 (by omega)
          · exact absurd rfl h25
      | true =>
        obtain ⟨a1, a2, a3, a4, -⟩ := rdc_at hs hx
        have hr : rF1 (rdc b L s) = -1 := by rw [rF1, hx]
        rw [hr, ← len l _ (rdc b L s).2.2.1]
        dsimp only
        by_cases q1 : (rdc b L s).2.1 = L
        · have hb : ¬ byt b L (rdc b L s).2.1 = 44 := by rw [q1]; simp [byt]
          rw [if_pos q1]
          refine r_aload_n dX9_isText_19 rfl ?_
          refine r_bipush (v := (nI 44)) dX9_isText_20 (by decide) ?_
          refine r_cV dX9_isText_22 (m_sees hB (by decide) (by omega)) lX9_232 rfl rfl rfl (by decide) ⟨Nat.le_refl _, Nat.le_refl _⟩ (Nat.le_of_ble_eq_true rfl) ?_
          rw [decide_eq_false hb]
          refine r_if_eq 45 dX9_isText_25 (by decide) (fun h25 => ?_) (fun h25 => ?_)
          · refine r_pc 45 rfl ?_
            refine r_aload_n dX9_isText_45 rfl ?_
            refine r_get dX9_isText_46 fX9_219 rfl rfl ?_
            refine r_aload_n dX9_isText_49 rfl ?_
            refine r_get dX9_isText_50 fX9_208 rfl rfl ?_
            refine r_icmp_geN 64 dX9_isText_53 (by decide) (by omega) (by omega) (fun h53 => ?_) (fun h53 => ?_)
            · refine r_pc 64 rfl ?_
              refine r_aload_n dX9_isText_64 rfl ?_
              refine r_iconst (v := (nI 0)) dX9_isText_65 (by decide) ?_
              refine r_put (w2 := (_, mW _ _ _ _ _ _ _ _ _ _ _ _ _ _ _ _ _ _ _ _ _ _ _ _ _ _ _ _ _ _ _ _ _)) dX9_isText_66 fX9_208 rfl rfl (Nat.le_of_ble_eq_true rfl) (fun _ => rfl) (fun _ => rfl) rfl ?_
              refine r_aload_n dX9_isText_69 rfl ?_
              refine r_get dX9_isText_70 fX9_222 rfl rfl ?_
              refine r_pc 73 rfl ?_
              refine r_if_ge 80 dX9_isText_73 (by decide) (fun h73 => ?_) (fun h73 => ?_)
              · exact absurd h73 (by decide)
              · refine r_pc 76 rfl ?_
                refine r_iconst (v := (nI 1)) dX9_isText_76 (by decide) ?_
                refine r_goto 81 dX9_isText_77 (by decide) ?_
                exact r_zret dX9_isText_81 rfl rfl rfl (by rw [q1]; rfl)
            · exact absurd h53 (by omega)
          · exact absurd rfl h25
        · rw [if_neg q1]
          by_cases q2 : byt b L (rdc b L s).2.1 = 44
          · rw [if_pos q2]
            refine r_aload_n dX9_isText_19 rfl ?_
            refine r_bipush (v := (nI 44)) dX9_isText_20 (by decide) ?_
            refine r_cV dX9_isText_22 (m_sees hB (by decide) (by omega)) lX9_232 rfl rfl rfl (by decide) ⟨Nat.le_refl _, Nat.le_refl _⟩ (Nat.le_of_ble_eq_true rfl) ?_
            rw [decide_eq_true q2]
            refine r_if_eq 45 dX9_isText_25 (by decide) (fun h25 => ?_) (fun h25 => ?_)
            · exact absurd h25 (by decide)
            · refine r_pc 28 rfl ?_
              refine r_aload_n dX9_isText_28 rfl ?_
              refine r_dup dX9_isText_29 rfl ?_
              refine r_get dX9_isText_30 fX9_219 rfl rfl ?_
              refine r_iconst (v := (nI 1)) dX9_isText_33 (by decide) ?_
              refine r_iaddN dX9_isText_34 ?_
              refine r_pc 35 rfl ?_
              refine r_put (w2 := (_, mW _ _ _ _ _ _ _ _ _ _ _ _ _ _ _ _ _ _ _ _ _ _ _ _ _ _ _ _ _ _ _ _ _)) dX9_isText_35 fX9_219 rfl rfl (Nat.le_of_ble_eq_true rfl) (fun _ => rfl) (fun _ => rfl) rfl ?_
              refine r_aload_n dX9_isText_38 rfl ?_
              refine r_cVv dX9_isText_39 (m_reads hB (by omega) (by rw [len]; omega)) lX9_247 rfl rfl rfl (by decide) ⟨Nat.le_refl _, Nat.le_refl _⟩ (Nat.le_of_ble_eq_true rfl) ?_
              refine r_goto 19 dX9_isText_42 (by decide) ?_
              refine r_pc 19 rfl ?_
              exact ih _ _ (by omega) (by omega) (by rw [len]; omega)
          · rw [if_neg q2]
            refine r_aload_n dX9_isText_19 rfl ?_
            refine r_bipush (v := (nI 44)) dX9_isText_20 (by decide) ?_
            refine r_cV dX9_isText_22 (m_sees hB (by decide) (by omega)) lX9_232 rfl rfl rfl (by decide) ⟨Nat.le_refl _, Nat.le_refl _⟩ (Nat.le_of_ble_eq_true rfl) ?_
            rw [decide_eq_false q2]
            refine r_if_eq 45 dX9_isText_25 (by decide) (fun h25 => ?_) (fun h25 => ?_)
            · refine r_pc 45 rfl ?_
              refine r_aload_n dX9_isText_45 rfl ?_
              refine r_get dX9_isText_46 fX9_219 rfl rfl ?_
              refine r_aload_n dX9_isText_49 rfl ?_
              refine r_get dX9_isText_50 fX9_208 rfl rfl ?_
              refine r_icmp_geN 64 dX9_isText_53 (by decide) (by omega) (by omega) (fun h53 => ?_) (fun h53 => ?_)
              · exact absurd h53 (by omega)
              · refine r_pc 56 rfl ?_
                refine r_aload_n dX9_isText_56 rfl ?_
                refine r_aload_n dX9_isText_57 rfl ?_
                refine r_get dX9_isText_58 fX9_219 rfl rfl ?_
                refine r_cVv dX9_isText_61 m_fails lX9_236 rfl rfl rfl (by decide) ⟨Nat.le_refl _, Nat.le_refl _⟩ (Nat.le_of_ble_eq_true rfl) ?_
                refine r_aload_n dX9_isText_64 rfl ?_
                refine r_pc 65 rfl ?_
                refine r_iconst (v := (nI 0)) dX9_isText_65 (by decide) ?_
                refine r_put (w2 := (_, mW _ _ _ _ _ _ _ _ _ _ _ _ _ _ _ _ _ _ _ _ _ _ _ _ _ _ _ _ _ _ _ _ _)) dX9_isText_66 fX9_208 rfl rfl (Nat.le_of_ble_eq_true rfl) (fun _ => rfl) (fun _ => rfl) rfl ?_
                refine r_aload_n dX9_isText_69 rfl ?_
                refine r_get dX9_isText_70 fX9_222 rfl rfl ?_
                refine r_if_ge 80 dX9_isText_73 (by decide) (fun h73 => ?_) (fun h73 => ?_)
                · refine r_pc 80 rfl ?_
                  refine r_iconst (v := (nI 0)) dX9_isText_80 (by decide) ?_
                  exact r_zret dX9_isText_81 rfl rfl rfl rfl
                · exact absurd (nI_pos' (by omega)) h73
            · exact absurd rfl h25
  subst hw0
  refine r_aload_n dX9_isText_0 rfl ?_
  refine r_iconst (v := (nI 0)) dX9_isText_1 (by decide) ?_
  refine r_put (w2 := (_, mW _ _ _ _ _ _ _ _ _ _ _ _ _ _ _ _ _ _ _ _ _ _ _ _ _ _ _ _ _ _ _ _ _)) dX9_isText_2 fX9_219 rfl rfl (Nat.le_of_ble_eq_true rfl) (fun _ => rfl) (fun _ => rfl) rfl ?_
  refine r_aload_n dX9_isText_5 rfl ?_
  refine r_iconst (v := (-1)) dX9_isText_6 (by decide) ?_
  refine r_pc 7 rfl ?_
  refine r_put (w2 := (_, mW _ _ _ _ _ _ _ _ _ _ _ _ _ _ _ _ _ _ _ _ _ _ _ _ _ _ _ _ _ _ _ _ _)) dX9_isText_7 fX9_222 rfl rfl (Nat.le_of_ble_eq_true rfl) (fun _ => rfl) (fun _ => rfl) rfl ?_
  refine r_aload_n dX9_isText_10 rfl ?_
  refine r_iconst (v := (nI 0)) dX9_isText_11 (by decide) ?_
  refine r_put (w2 := (_, mW _ _ _ _ _ _ _ _ _ _ _ _ _ _ _ _ _ _ _ _ _ _ _ _ _ _ _ _ _ _ _ _ _)) dX9_isText_12 fX9_239 rfl rfl (Nat.le_of_ble_eq_true rfl) (fun _ => rfl) (fun _ => rfl) rfl ?_
  refine r_aload_n dX9_isText_15 rfl ?_
  refine r_pc 16 rfl ?_
  refine r_cVv dX9_isText_16 (m_reads (l := []) hB (Nat.zero_le _) (Nat.le_refl _)) lX9_247 rfl rfl rfl (by decide) ⟨Nat.le_refl _, Nat.le_refl _⟩ (Nat.le_of_ble_eq_true rfl) ?_
  refine r_pc 19 rfl ?_
  exact Lp 121 0 [] (by omega) (Nat.zero_le _) (Nat.le_refl _)
end RT
