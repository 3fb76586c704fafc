/-! ===== the tape: its words ===== -/
/-- the tape's bytes -/
def By (tb : Nat → Int32) (L : Nat) (b : Nat → Nat) : Prop := L ≤ 120 ∧ ∀ j, j < L → tb j = nI (b j) ∧ b j < 128
def byt (b : Nat → Nat) (L j : Nat) : Nat := if j < L then b j else 0
theorem byt_lt {tb : Nat → Int32} {L : Nat} {b : Nat → Nat} (h : By tb L b) (j : Nat) : byt b L j < 128 := by
  unfold byt
  split
  · rename_i q; exact (h.2 j q).2
  · decide
def wen (b : Nat → Nat) : Nat → Nat → Nat
  | 0, s => s
  | n + 1, s => if 97 ≤ b s ∧ b s ≤ 122 then wen b n (s + 1) else s
def wE (b : Nat → Nat) (L s : Nat) : Nat := wen b (L - s) s
theorem wen_ge (b : Nat → Nat) : ∀ n s, s ≤ wen b n s ∧ wen b n s ≤ s + n
  | 0, s => ⟨Nat.le_refl _, Nat.le_refl _⟩
  | n + 1, s => by
    unfold wen
    split
    · have := wen_ge b n (s + 1); omega
    · omega
def weqB (b : Nat → Nat) (q : List Nat) (s : Nat) : Nat → Bool
  | 0 => true
  | n + 1 => weqB b q s n && decide (b (s + n) = q.getD n 0)
def iw (b : Nat → Nat) (q : List Nat) (s e : Nat) : Bool := decide (e - s = q.length) && weqB b q s q.length
theorem weqB_ge {b : Nat → Nat} {q : List Nat} {s i : Nat} (h : ¬ b (s + i) = q.getD i 0) : ∀ m, weqB b q s (i + 1 + m) = false
  | 0 => by
    show (weqB b q s i && _) = false
    rw [decide_eq_false h, Bool.and_false]
  | m + 1 => by
    show (weqB b q s (i + 1 + m) && _) = false
    rw [weqB_ge h m]
    rfl
def fnd (P : Nat → Bool) : Nat → Nat → Option Nat
  | 0, _ => none
  | n + 1, k => if P k = true then some k else fnd P n (k + 1)
theorem fnd_some {P : Nat → Bool} : ∀ {n k x : Nat}, fnd P n k = some x → P x = true ∧ k ≤ x ∧ x < k + n
  | 0, k, x, h => by cases h
  | n + 1, k, x, h => by
    unfold fnd at h
    split at h
    · cases h; rename_i q; exact ⟨q, by omega, by omega⟩
    · have := fnd_some h; exact ⟨this.1, by omega, by omega⟩
def zs (k : Nat) : List Nat := (zt_str[k]?).getD []
theorem zs_at : ∀ k, k < 21 → zt_str[k]? = some (zs k) := by decide +kernel
theorem zs_len : ∀ k, k < 21 → 3 ≤ (zs k).length := by decide +kernel
def whoN (b : Nat → Nat) (s e : Nat) : Option Nat := fnd (fun k => iw b (zs k) s e) 9 0
def figN (b : Nat → Nat) (s e : Nat) : Option Nat := fnd (fun k => iw b (zs (9 + k)) s e) 12 0
def putL (tc : Nat → Int32) (l : List Nat) : Nat → Int32 := fun j => match l[j]? with
  | some x => nI x
  | none => tc j
theorem putL_push (tc : Nat → Int32) (l : List Nat) (x : Nat) : upd (putL tc l) l.length (nI x) = putL tc (l ++ [x]) := by
  funext j
  by_cases h : j = l.length
  · subst h
    rw [pk_us]
    simp [putL]
  · rw [pk_un h]
    unfold putL
    by_cases h2 : j < l.length
    · rw [List.getElem?_append_left h2]
    · rw [List.getElem?_append_right (by omega), List.getElem?_eq_none (by omega), List.getElem?_eq_none (by simp; omega)]
section T1
variable {tb : Nat → Int32} {tl : Int32} {tc : Nat → Int32} {tn : Int32} {fc ff fs ft fu fw : Nat → Int32} {fy fd : Int32} {dc : Nat → Int32} {dp dq : Nat → Int64} {dn dm : Int32} {ec : Nat → Int32} {ep eq : Nat → Int64} {en em ik : Int32} {lr : Nat → Int32} {ln ly : Int32} {wh : Int64} {wr : Nat → Int64} {wf wb : Nat → Int32} {wn : Int32} {gz : G8} {wc : Nat → Int32} {ws : Int64} {wa pw pf pl : Int32} {ta : Nat → Int32}
variable {R : List AE} {b : Nat → Nat} {L : Nat}
theorem s_put0 {x : Int32} : Sem mX5_put 1 0 0 [.ref 1, .int x] (cW tb (nI 120) tc tn fc ff fs ft fu fw fy fd dc dp dq dn dm ec ep eq en em ik lr ln ly wh wr wf wb wn gz wc ws wa pw pf pl ta, R) (some (.int (nI 0))) (cW tb (nI 120) tc tn fc ff fs ft fu fw fy fd dc dp dq dn dm ec ep eq en em ik lr ln ly wh wr wf wb wn gz wc ws wa pw pf pl ta, R) := by
  refine sem_of (by decide) (Nat.le_of_ble_eq_true rfl) rfl ?_
  refine r_aload_n dX5_put_0 rfl ?_
  refine r_get dX5_put_1 fX5_15 rfl rfl ?_
  refine r_bipush (v := (nI 120)) dX5_put_4 (by decide) ?_
  refine r_icmp_ltN 11 dX5_put_6 (by decide) (by omega) (by omega) (fun h6 => ?_) (fun h6 => ?_)
  · exact absurd h6 (by decide)
  · refine r_pc 9 rfl ?_
    refine r_iconst (v := (nI 0)) dX5_put_9 (by decide) ?_
    exact r_zret dX5_put_10 rfl rfl rfl rfl
theorem s_put1 {x : Int32} (hL : L < 120) : Sem mX5_put 1 0 0 [.ref 1, .int x] (cW tb (nI L) tc tn fc ff fs ft fu fw fy fd dc dp dq dn dm ec ep eq en em ik lr ln ly wh wr wf wb wn gz wc ws wa pw pf pl ta, R) (some (.int (nI 1))) (cW (upd tb L x) (nI (L + 1)) tc tn fc ff fs ft fu fw fy fd dc dp dq dn dm ec ep eq en em ik lr ln ly wh wr wf wb wn gz wc ws wa pw pf pl ta, R) := by
  refine sem_of (by decide) (Nat.le_of_ble_eq_true rfl) rfl ?_
  refine r_aload_n dX5_put_0 rfl ?_
  refine r_get dX5_put_1 fX5_15 rfl rfl ?_
  refine r_bipush (v := (nI 120)) dX5_put_4 (by decide) ?_
  refine r_icmp_ltN 11 dX5_put_6 (by decide) (by omega) (by omega) (fun h6 => ?_) (fun h6 => ?_)
  · refine r_pc 11 rfl ?_
    refine r_aload_n dX5_put_11 rfl ?_
    refine r_get dX5_put_12 fX5_11 rfl rfl ?_
    refine r_aload_n dX5_put_15 rfl ?_
    refine r_get dX5_put_16 fX5_15 rfl rfl ?_
    refine r_iload_n dX5_put_19 rfl ?_
    refine r_pc 20 rfl ?_
    refine r_iast (w2 := (cW _ _ _ _ _ _ _ _ _ _ _ _ _ _ _ _ _ _ _ _ _ _ _ _ _ _ _ _ _ _ _ _ _ _ _ _ _ _ _, _)) dX5_put_20 rfl rfl (by omega) (by decide) rfl ?_
    refine r_aload_n dX5_put_21 rfl ?_
    refine r_dup dX5_put_22 rfl ?_
    refine r_get dX5_put_23 fX5_15 rfl rfl ?_
    refine r_iconst (v := (nI 1)) dX5_put_26 (by decide) ?_
    refine r_pc 27 rfl ?_
    refine r_iaddN dX5_put_27 ?_
    refine r_put (w2 := (cW _ _ _ _ _ _ _ _ _ _ _ _ _ _ _ _ _ _ _ _ _ _ _ _ _ _ _ _ _ _ _ _ _ _ _ _ _ _ _, _)) dX5_put_28 fX5_15 rfl rfl (Nat.le_of_ble_eq_true rfl) (fun _ => rfl) (fun _ => rfl) rfl ?_
    refine r_iconst (v := (nI 1)) dX5_put_31 (by decide) ?_
    exact r_zret dX5_put_32 rfl rfl rfl rfl
  · exact absurd h6 (by omega)
theorem s_codeAtT {n i : Nat} (hn : n ≤ 120) (hi : i < n) : Sem mX5_codeAt 1 0 0 [.ref 1, .int (nI i)] (cW tb tl tc (nI n) fc ff fs ft fu fw fy fd dc dp dq dn dm ec ep eq en em ik lr ln ly wh wr wf wb wn gz wc ws wa pw pf pl ta, R) (some (.int (tc i))) (cW tb tl tc (nI n) fc ff fs ft fu fw fy fd dc dp dq dn dm ec ep eq en em ik lr ln ly wh wr wf wb wn gz wc ws wa pw pf pl ta, R) := by
  refine sem_of (by decide) (Nat.le_of_ble_eq_true rfl) rfl ?_
  refine r_iload_n dX5_codeAt_0 rfl ?_
  refine r_if_lt 21 dX5_codeAt_1 (by decide) (fun h1 => ?_) (fun h1 => ?_)
  · exact absurd h1 (nI_pos (by omega))
  · refine r_pc 4 rfl ?_
    refine r_iload_n dX5_codeAt_4 rfl ?_
    refine r_aload_n dX5_codeAt_5 rfl ?_
    refine r_get dX5_codeAt_6 fX5_22 rfl rfl ?_
    refine r_icmp_geN 21 dX5_codeAt_9 (by decide) (by omega) (by omega) (fun h9 => ?_) (fun h9 => ?_)
    · exact absurd h9 (by omega)
    · refine r_pc 12 rfl ?_
      refine r_aload_n dX5_codeAt_12 rfl ?_
      refine r_get dX5_codeAt_13 fX5_19 rfl rfl ?_
      refine r_iload_n dX5_codeAt_16 rfl ?_
      refine r_iald dX5_codeAt_17 rfl rfl (by omega) (by decide) ?_
      refine r_goto 22 dX5_codeAt_18 (by decide) ?_
      exact r_iret dX5_codeAt_22 rfl rfl rfl
theorem s_byteAt {j : Nat} (hB : By tb L b) (hj : j < 2 ^ 31) : Sem mX5_byteAt 1 0 0 [.ref 1, .int (nI j)] (cW tb (nI L) tc tn fc ff fs ft fu fw fy fd dc dp dq dn dm ec ep eq en em ik lr ln ly wh wr wf wb wn gz wc ws wa pw pf pl ta, R) (some (.int (nI (byt b L j)))) (cW tb (nI L) tc tn fc ff fs ft fu fw fy fd dc dp dq dn dm ec ep eq en em ik lr ln ly wh wr wf wb wn gz wc ws wa pw pf pl ta, R) := by
  refine sem_of (by decide) (Nat.le_of_ble_eq_true rfl) rfl ?_
  have h120 := hB.1
  by_cases hl : j < L
  · have e : byt b L j = b j := by simp [byt, hl]
    rw [e]
    refine r_iload_n dX5_byteAt_0 rfl ?_
    refine r_if_lt 21 dX5_byteAt_1 (by decide) (fun h1 => ?_) (fun h1 => ?_)
    · exact absurd h1 (nI_pos (by omega))
    · refine r_pc 4 rfl ?_
      refine r_iload_n dX5_byteAt_4 rfl ?_
      refine r_aload_n dX5_byteAt_5 rfl ?_
      refine r_get dX5_byteAt_6 fX5_15 rfl rfl ?_
      refine r_icmp_geN 21 dX5_byteAt_9 (by decide) (by omega) (by omega) (fun h9 => ?_) (fun h9 => ?_)
      · exact absurd h9 (by omega)
      · refine r_pc 12 rfl ?_
        refine r_aload_n dX5_byteAt_12 rfl ?_
        refine r_get dX5_byteAt_13 fX5_11 rfl rfl ?_
        refine r_iload_n dX5_byteAt_16 rfl ?_
        refine r_iald dX5_byteAt_17 rfl rfl (by omega) (by decide) ?_
        refine r_goto 22 dX5_byteAt_18 (by decide) ?_
        exact r_iret dX5_byteAt_22 rfl (by rw [(hB.2 j hl).1]) rfl
  · have e : byt b L j = 0 := by simp [byt, hl]
    rw [e]
    refine r_iload_n dX5_byteAt_0 rfl ?_
    refine r_if_lt 21 dX5_byteAt_1 (by decide) (fun h1 => ?_) (fun h1 => ?_)
    · exact absurd h1 (nI_pos (by omega))
    · refine r_pc 4 rfl ?_
      refine r_iload_n dX5_byteAt_4 rfl ?_
      refine r_aload_n dX5_byteAt_5 rfl ?_
      refine r_get dX5_byteAt_6 fX5_15 rfl rfl ?_
      refine r_icmp_geN 21 dX5_byteAt_9 (by decide) (by omega) (by omega) (fun h9 => ?_) (fun h9 => ?_)
      · refine r_pc 21 rfl ?_
        refine r_iconst (v := (nI 0)) dX5_byteAt_21 (by decide) ?_
        exact r_iret dX5_byteAt_22 rfl rfl rfl
      · exact absurd h9 hl
theorem s_wordEnd {s : Nat} (hB : By tb L b) (hs : s ≤ L) : Sem mX5_wordEnd 2 0 0 [.ref 1, .int (nI s)] (cW tb (nI L) tc tn fc ff fs ft fu fw fy fd dc dp dq dn dm ec ep eq en em ik lr ln ly wh wr wf wb wn gz wc ws wa pw pf pl ta, R) (some (.int (nI (wE b L s)))) (cW tb (nI L) tc tn fc ff fs ft fu fw fy fd dc dp dq dn dm ec ep eq en em ik lr ln ly wh wr wf wb wn gz wc ws wa pw pf pl ta, R) := by
  refine sem_of (by decide) (Nat.le_of_ble_eq_true rfl) rfl ?_
  have h120 := hB.1
  have Lp : ∀ (m e : Nat), e + m = L → Rn mX5_wordEnd 2 0 0 (cW tb (nI L) tc tn fc ff fs ft fu fw fy fd dc dp dq dn dm ec ep eq en em ik lr ln ly wh wr wf wb wn gz wc ws wa pw pf pl ta, R) (some (.int (nI (wen b m e)))) (cW tb (nI L) tc tn fc ff fs ft fu fw fy fd dc dp dq dn dm ec ep eq en em ik lr ln ly wh wr wf wb wn gz wc ws wa pw pf pl ta, R) 0 0 2 [some (.ref 1), some (.int (nI s)), some (.int (nI e))] [] (cW tb (nI L) tc tn fc ff fs ft fu fw fy fd dc dp dq dn dm ec ep eq en em ik lr ln ly wh wr wf wb wn gz wc ws wa pw pf pl ta, R) := by
    intro m
    induction m with
    | zero =>
      intro e he
      refine r_iload_n dX5_wordEnd_2 rfl ?_
      refine r_aload_n dX5_wordEnd_3 rfl ?_
      refine r_get dX5_wordEnd_4 fX5_15 rfl rfl ?_
      refine r_icmp_geN 36 dX5_wordEnd_7 (by decide) (by omega) (by omega) (fun h7 => ?_) (fun h7 => ?_)
      · refine r_pc 36 rfl ?_
        refine r_iload_n dX5_wordEnd_36 rfl ?_
        exact r_iret dX5_wordEnd_37 rfl rfl rfl
      · exact absurd h7 (by omega)
    | succ m ih =>
      intro e he
      have hbe : byt b L e = b e := by simp [byt, show e < L by omega]
      have hb := byt_lt hB e
      unfold wen
      rw [← hbe]
      refine r_iload_n dX5_wordEnd_2 rfl ?_
      refine r_aload_n dX5_wordEnd_3 rfl ?_
      refine r_get dX5_wordEnd_4 fX5_15 rfl rfl ?_
      refine r_icmp_geN 36 dX5_wordEnd_7 (by decide) (by omega) (by omega) (fun h7 => ?_) (fun h7 => ?_)
      · exact absurd h7 (by omega)
      · refine r_pc 10 rfl ?_
        refine r_aload_n dX5_wordEnd_10 rfl ?_
        refine r_iload_n dX5_wordEnd_11 rfl ?_
        refine r_cV dX5_wordEnd_12 (s_byteAt hB (by omega)) lX5_33 rfl rfl rfl (by decide) ⟨Nat.le_refl _, Nat.le_refl _⟩ (Nat.le_of_ble_eq_true rfl) ?_
        refine r_bipush (v := (nI 97)) dX5_wordEnd_15 (by decide) ?_
        refine r_icmp_ltN 36 dX5_wordEnd_17 (by decide) (by omega) (by omega) (fun h17 => ?_) (fun h17 => ?_)
        · rw [if_neg (fun q => by omega)]
          refine r_pc 36 rfl ?_
          refine r_iload_n dX5_wordEnd_36 rfl ?_
          exact r_iret dX5_wordEnd_37 rfl rfl rfl
        · refine r_pc 20 rfl ?_
          refine r_aload_n dX5_wordEnd_20 rfl ?_
          refine r_iload_n dX5_wordEnd_21 rfl ?_
          refine r_cV dX5_wordEnd_22 (s_byteAt hB (by omega)) lX5_33 rfl rfl rfl (by decide) ⟨Nat.le_refl _, Nat.le_refl _⟩ (Nat.le_of_ble_eq_true rfl) ?_
          refine r_bipush (v := (nI 122)) dX5_wordEnd_25 (by decide) ?_
          refine r_icmp_gtN 36 dX5_wordEnd_27 (by decide) (by omega) (by omega) (fun h27 => ?_) (fun h27 => ?_)
          · rw [if_neg (fun q => by omega)]
            refine r_pc 36 rfl ?_
            refine r_iload_n dX5_wordEnd_36 rfl ?_
            exact r_iret dX5_wordEnd_37 rfl rfl rfl
          · rw [if_pos ⟨h17, h27⟩]
            refine r_pc 30 rfl ?_
            refine r_inc1 (ls' := [_, _, _]) dX5_wordEnd_30 (by decide) rfl rfl ?_
            refine r_goto 2 dX5_wordEnd_33 (by decide) ?_
            refine r_pc 2 rfl ?_
            exact ih (e + 1) (by omega)
  refine r_iload_n dX5_wordEnd_0 rfl ?_
  refine r_istore_n (ls' := [_, _, _]) dX5_wordEnd_1 (by decide) rfl ?_
  refine r_pc 2 rfl ?_
  exact Lp (L - s) s (by omega)
theorem s_isWord {s e i : Nat} (hB : By tb L b) (hs : s ≤ e) (he : e ≤ L) (hi : i < 21) : Sem mX5_isWord 5 0 0 [.ref 1, .ref (2000 + i), .int (nI s), .int (nI e)] (cW tb (nI L) tc tn fc ff fs ft fu fw fy fd dc dp dq dn dm ec ep eq en em ik lr ln ly wh wr wf wb wn gz wc ws wa pw pf pl ta, R) (some (.int (bI (iw b (zs i) s e)))) (cW tb (nI L) tc tn fc ff fs ft fu fw fy fd dc dp dq dn dm ec ep eq en em ik lr ln ly wh wr wf wb wn gz wc ws wa pw pf pl ta, R) := by
  refine sem_of (by decide) (Nat.le_of_ble_eq_true rfl) rfl ?_
  have h120 := hB.1
  have hq := zs_at i hi
  have hq8 := (zt_small hq).1
  unfold iw
  by_cases hl : e - s = (zs i).length
  · rw [decide_eq_true hl, Bool.true_and]
    have Lp : ∀ (m j : Nat), j + m = (zs i).length → weqB b (zs i) s j = true → Rn mX5_isWord 5 0 0 (cW tb (nI L) tc tn fc ff fs ft fu fw fy fd dc dp dq dn dm ec ep eq en em ik lr ln ly wh wr wf wb wn gz wc ws wa pw pf pl ta, R) (some (.int (bI (weqB b (zs i) s (zs i).length)))) (cW tb (nI L) tc tn fc ff fs ft fu fw fy fd dc dp dq dn dm ec ep eq en em ik lr ln ly wh wr wf wb wn gz wc ws wa pw pf pl ta, R) 0 0 15 [some (.ref 1), some (.ref (2000 + i)), some (.int (nI s)), some (.int (nI e)), some (.int (nI j))] [] (cW tb (nI L) tc tn fc ff fs ft fu fw fy fd dc dp dq dn dm ec ep eq en em ik lr ln ly wh wr wf wb wn gz wc ws wa pw pf pl ta, R) := by
      intro m
      induction m with
      | zero =>
        intro j hj hw
        have : j = (zs i).length := by omega
        subst this
        rw [hw]
        refine r_iload dX5_isWord_15 rfl ?_
        refine r_aload_n dX5_isWord_17 rfl ?_
        refine r_cT dX5_isWord_18 hq (s_strlen _ hq) lX5_63 rfl rfl (by decide) ⟨Nat.le_refl _, Nat.le_refl _⟩ (Nat.le_of_ble_eq_true rfl) ?_
        refine r_icmp_geN 49 dX5_isWord_21 (by decide) (by omega) (by omega) (fun h21 => ?_) (fun h21 => ?_)
        · refine r_pc 49 rfl ?_
          refine r_iconst (v := (nI 1)) dX5_isWord_49 (by decide) ?_
          exact r_zret dX5_isWord_50 rfl rfl rfl rfl
        · exact absurd h21 (by omega)
      | succ m ih =>
        intro j hj hw
        have hjl : j < (zs i).length := by omega
        have hbe : byt b L (s + j) = b (s + j) := by simp [byt, show s + j < L by omega]
        have hb := byt_lt hB (s + j)
        have hc := (zt_small hq).2 j
        refine r_iload dX5_isWord_15 rfl ?_
        refine r_aload_n dX5_isWord_17 rfl ?_
        refine r_cT dX5_isWord_18 hq (s_strlen _ hq) lX5_63 rfl rfl (by decide) ⟨Nat.le_refl _, Nat.le_refl _⟩ (Nat.le_of_ble_eq_true rfl) ?_
        refine r_icmp_geN 49 dX5_isWord_21 (by decide) (by omega) (by omega) (fun h21 => ?_) (fun h21 => ?_)
        · exact absurd h21 (by omega)
        · refine r_pc 24 rfl ?_
          refine r_aload_n dX5_isWord_24 rfl ?_
          refine r_iload_n dX5_isWord_25 rfl ?_
          refine r_iload dX5_isWord_26 rfl ?_
          refine r_iaddN dX5_isWord_28 ?_
          refine r_cV dX5_isWord_29 (s_byteAt hB (by omega)) lX5_33 rfl rfl rfl (by decide) ⟨Nat.le_refl _, Nat.le_refl _⟩ (Nat.le_of_ble_eq_true rfl) ?_
          refine r_pc 32 rfl ?_
          refine r_aload_n dX5_isWord_32 rfl ?_
          refine r_iload dX5_isWord_33 rfl ?_
          refine r_cT dX5_isWord_35 hq (s_charAt _ hq hjl) lX5_67 rfl rfl (by decide) ⟨Nat.le_refl _, Nat.le_refl _⟩ (Nat.le_of_ble_eq_true rfl) ?_
          refine r_icmp_eqN 43 dX5_isWord_38 (by decide) (by omega) (by omega) (fun h38 => ?_) (fun h38 => ?_)
          · refine r_pc 43 rfl ?_
            refine r_inc1 (ls' := [_, _, _, _, _]) dX5_isWord_43 (by decide) rfl rfl ?_
            refine r_goto 15 dX5_isWord_46 (by decide) ?_
            refine r_pc 15 rfl ?_
            exact ih (j + 1) (by omega) (by show (weqB b (zs i) s j && _) = true; rw [hw, ← hbe, decide_eq_true h38]; rfl)
          · have hf := weqB_ge (b := b) (q := zs i) (s := s) (i := j) (by rw [← hbe]; exact h38) m
            rw [show j + 1 + m = (zs i).length by omega] at hf
            rw [hf]
            refine r_pc 41 rfl ?_
            refine r_iconst (v := (nI 0)) dX5_isWord_41 (by decide) ?_
            exact r_zret dX5_isWord_42 rfl rfl rfl rfl
    refine r_iload_n dX5_isWord_0 rfl ?_
    refine r_iload_n dX5_isWord_1 rfl ?_
    refine r_isubN dX5_isWord_2 (by omega) ?_
    refine r_aload_n dX5_isWord_3 rfl ?_
    refine r_cT dX5_isWord_4 hq (s_strlen _ hq) lX5_63 rfl rfl (by decide) ⟨Nat.le_refl _, Nat.le_refl _⟩ (Nat.le_of_ble_eq_true rfl) ?_
    refine r_pc 7 rfl ?_
    refine r_icmp_eqN 12 dX5_isWord_7 (by decide) (by omega) (by omega) (fun h7 => ?_) (fun h7 => ?_)
    · refine r_pc 12 rfl ?_
      refine r_iconst (v := (nI 0)) dX5_isWord_12 (by decide) ?_
      refine r_istore (ls' := [_, _, _, _, _]) dX5_isWord_13 (by decide) rfl ?_
      refine r_pc 15 rfl ?_
      exact Lp _ 0 (Nat.zero_add _) rfl
    · exact absurd hl h7
  · rw [decide_eq_false hl, Bool.false_and]
    refine r_iload_n dX5_isWord_0 rfl ?_
    refine r_iload_n dX5_isWord_1 rfl ?_
    refine r_isubN dX5_isWord_2 (by omega) ?_
    refine r_aload_n dX5_isWord_3 rfl ?_
    refine r_cT dX5_isWord_4 hq (s_strlen _ hq) lX5_63 rfl rfl (by decide) ⟨Nat.le_refl _, Nat.le_refl _⟩ (Nat.le_of_ble_eq_true rfl) ?_
    refine r_pc 7 rfl ?_
    refine r_icmp_eqN 12 dX5_isWord_7 (by decide) (by omega) (by omega) (fun h7 => ?_) (fun h7 => ?_)
    · exact absurd h7 hl
    · refine r_pc 10 rfl ?_
      refine r_iconst (v := (nI 0)) dX5_isWord_10 (by decide) ?_
      exact r_zret dX5_isWord_11 rfl rfl rfl rfl
theorem s_whoIn {s e : Nat} (hB : By tb L b) (hs : s ≤ e) (he : e ≤ L) : Sem mX5_whoIn 6 0 0 [.ref 1, .int (nI s), .int (nI e)] (cW tb (nI L) tc tn fc ff fs ft fu fw fy fd dc dp dq dn dm ec ep eq en em ik lr ln ly wh wr wf wb wn gz wc ws wa pw pf pl ta, R) (some (.int (stI (whoN b s e)))) (cW tb (nI L) tc tn fc ff fs ft fu fw fy fd dc dp dq dn dm ec ep eq en em ik lr ln ly wh wr wf wb wn gz wc ws wa pw pf pl ta, R) := by
  refine sem_of (by decide) (Nat.le_of_ble_eq_true rfl) rfl ?_
  have Lp : ∀ (m k : Nat), k + m = 9 → Rn mX5_whoIn 6 0 0 (cW tb (nI L) tc tn fc ff fs ft fu fw fy fd dc dp dq dn dm ec ep eq en em ik lr ln ly wh wr wf wb wn gz wc ws wa pw pf pl ta, R) (some (.int (stI (fnd (fun k => iw b (zs k) s e) m k)))) (cW tb (nI L) tc tn fc ff fs ft fu fw fy fd dc dp dq dn dm ec ep eq en em ik lr ln ly wh wr wf wb wn gz wc ws wa pw pf pl ta, R) 0 0 2 [some (.ref 1), some (.int (nI s)), some (.int (nI e)), some (.int (nI k))] [] (cW tb (nI L) tc tn fc ff fs ft fu fw fy fd dc dp dq dn dm ec ep eq en em ik lr ln ly wh wr wf wb wn gz wc ws wa pw pf pl ta, R) := by
    intro m
    induction m with
    | zero =>
      intro k hk
      refine r_iload_n dX5_whoIn_2 rfl ?_
      refine r_bipush (v := (nI 9)) dX5_whoIn_3 (by decide) ?_
      refine r_icmp_geN 29 dX5_whoIn_5 (by decide) (by omega) (by omega) (fun h5 => ?_) (fun h5 => ?_)
      · refine r_pc 29 rfl ?_
        refine r_iconst (v := (-1)) dX5_whoIn_29 (by decide) ?_
        exact r_iret dX5_whoIn_30 rfl rfl rfl
      · exact absurd h5 (by omega)
    | succ m ih =>
      intro k hk
      unfold fnd
      cases hw : iw b (zs k) s e with
      | true =>
        rw [if_pos rfl]
        refine r_iload_n dX5_whoIn_2 rfl ?_
        refine r_bipush (v := (nI 9)) dX5_whoIn_3 (by decide) ?_
        refine r_icmp_geN 29 dX5_whoIn_5 (by decide) (by omega) (by omega) (fun h5 => ?_) (fun h5 => ?_)
        · exact absurd h5 (by omega)
        · refine r_pc 8 rfl ?_
          refine r_aload_n dX5_whoIn_8 rfl ?_
          refine r_iload_n dX5_whoIn_9 rfl ?_
          refine r_cS dX5_whoIn_10 (s_ofWho _ (by omega)) lX5_50 rfl rfl (by decide) ⟨Nat.le_refl _, Nat.le_refl _⟩ (Nat.le_of_ble_eq_true rfl) ?_
          refine r_iload_n dX5_whoIn_13 rfl ?_
          refine r_iload_n dX5_whoIn_14 rfl ?_
          refine r_pc 15 rfl ?_
          refine r_cV dX5_whoIn_15 (s_isWord hB hs he (by omega)) lX5_56 rfl rfl rfl (by decide) ⟨Nat.le_refl _, Nat.le_refl _⟩ (Nat.le_of_ble_eq_true rfl) ?_
          rw [hw]
          refine r_if_eq 23 dX5_whoIn_18 (by decide) (fun h18 => ?_) (fun h18 => ?_)
          · exact absurd h18 (by decide)
          · refine r_pc 21 rfl ?_
            refine r_iload_n dX5_whoIn_21 rfl ?_
            exact r_iret dX5_whoIn_22 rfl rfl rfl
      | false =>
        rw [if_neg (by decide)]
        refine r_iload_n dX5_whoIn_2 rfl ?_
        refine r_bipush (v := (nI 9)) dX5_whoIn_3 (by decide) ?_
        refine r_icmp_geN 29 dX5_whoIn_5 (by decide) (by omega) (by omega) (fun h5 => ?_) (fun h5 => ?_)
        · exact absurd h5 (by omega)
        · refine r_pc 8 rfl ?_
          refine r_aload_n dX5_whoIn_8 rfl ?_
          refine r_iload_n dX5_whoIn_9 rfl ?_
          refine r_cS dX5_whoIn_10 (s_ofWho _ (by omega)) lX5_50 rfl rfl (by decide) ⟨Nat.le_refl _, Nat.le_refl _⟩ (Nat.le_of_ble_eq_true rfl) ?_
          refine r_iload_n dX5_whoIn_13 rfl ?_
          refine r_iload_n dX5_whoIn_14 rfl ?_
          refine r_pc 15 rfl ?_
          refine r_cV dX5_whoIn_15 (s_isWord hB hs he (by omega)) lX5_56 rfl rfl rfl (by decide) ⟨Nat.le_refl _, Nat.le_refl _⟩ (Nat.le_of_ble_eq_true rfl) ?_
          rw [hw]
          refine r_if_eq 23 dX5_whoIn_18 (by decide) (fun h18 => ?_) (fun h18 => ?_)
          · refine r_pc 23 rfl ?_
            refine r_inc1 (ls' := [_, _, _, _]) dX5_whoIn_23 (by decide) rfl rfl ?_
            refine r_goto 2 dX5_whoIn_26 (by decide) ?_
            refine r_pc 2 rfl ?_
            exact ih (k + 1) (by omega)
          · exact absurd rfl h18
  refine r_iconst (v := (nI 0)) dX5_whoIn_0 (by decide) ?_
  refine r_istore_n (ls' := [_, _, _, _]) dX5_whoIn_1 (by decide) rfl ?_
  refine r_pc 2 rfl ?_
  exact Lp 9 0 (by omega)
theorem s_figureIn {s e : Nat} (hB : By tb L b) (hs : s ≤ e) (he : e ≤ L) : Sem mX5_figureIn 6 0 0 [.ref 1, .int (nI s), .int (nI e)] (cW tb (nI L) tc tn fc ff fs ft fu fw fy fd dc dp dq dn dm ec ep eq en em ik lr ln ly wh wr wf wb wn gz wc ws wa pw pf pl ta, R) (some (.int (stI (figN b s e)))) (cW tb (nI L) tc tn fc ff fs ft fu fw fy fd dc dp dq dn dm ec ep eq en em ik lr ln ly wh wr wf wb wn gz wc ws wa pw pf pl ta, R) := by
  refine sem_of (by decide) (Nat.le_of_ble_eq_true rfl) rfl ?_
  have Lp : ∀ (m k : Nat), k + m = 12 → Rn mX5_figureIn 6 0 0 (cW tb (nI L) tc tn fc ff fs ft fu fw fy fd dc dp dq dn dm ec ep eq en em ik lr ln ly wh wr wf wb wn gz wc ws wa pw pf pl ta, R) (some (.int (stI (fnd (fun k => iw b (zs (9 + k)) s e) m k)))) (cW tb (nI L) tc tn fc ff fs ft fu fw fy fd dc dp dq dn dm ec ep eq en em ik lr ln ly wh wr wf wb wn gz wc ws wa pw pf pl ta, R) 0 0 2 [some (.ref 1), some (.int (nI s)), some (.int (nI e)), some (.int (nI k))] [] (cW tb (nI L) tc tn fc ff fs ft fu fw fy fd dc dp dq dn dm ec ep eq en em ik lr ln ly wh wr wf wb wn gz wc ws wa pw pf pl ta, R) := by
    intro m
    induction m with
    | zero =>
      intro k hk
      refine r_iload_n dX5_figureIn_2 rfl ?_
      refine r_bipush (v := (nI 12)) dX5_figureIn_3 (by decide) ?_
      refine r_icmp_geN 29 dX5_figureIn_5 (by decide) (by omega) (by omega) (fun h5 => ?_) (fun h5 => ?_)
      · refine r_pc 29 rfl ?_
        refine r_iconst (v := (-1)) dX5_figureIn_29 (by decide) ?_
        exact r_iret dX5_figureIn_30 rfl rfl rfl
      · exact absurd h5 (by omega)
    | succ m ih =>
      intro k hk
      unfold fnd
      have hof : Sem mX7_ofFigure 1 0 0 [.int (nI k)] (cW tb (nI L) tc tn fc ff fs ft fu fw fy fd dc dp dq dn dm ec ep eq en em ik lr ln ly wh wr wf wb wn gz wc ws wa pw pf pl ta, R) (some (.ref (2000 + (9 + k)))) (cW tb (nI L) tc tn fc ff fs ft fu fw fy fd dc dp dq dn dm ec ep eq en em ik lr ln ly wh wr wf wb wn gz wc ws wa pw pf pl ta, R) := by
        have := s_ofFigure (cW tb (nI L) tc tn fc ff fs ft fu fw fy fd dc dp dq dn dm ec ep eq en em ik lr ln ly wh wr wf wb wn gz wc ws wa pw pf pl ta, R) (n := k) (by omega)
        rw [show 2009 + k = 2000 + (9 + k) by omega] at this
        exact this
      cases hw : iw b (zs (9 + k)) s e with
      | true =>
        rw [if_pos rfl]
        refine r_iload_n dX5_figureIn_2 rfl ?_
        refine r_bipush (v := (nI 12)) dX5_figureIn_3 (by decide) ?_
        refine r_icmp_geN 29 dX5_figureIn_5 (by decide) (by omega) (by omega) (fun h5 => ?_) (fun h5 => ?_)
        · exact absurd h5 (by omega)
        · refine r_pc 8 rfl ?_
          refine r_aload_n dX5_figureIn_8 rfl ?_
          refine r_iload_n dX5_figureIn_9 rfl ?_
          refine r_cS dX5_figureIn_10 hof lX5_60 rfl rfl (by decide) ⟨Nat.le_refl _, Nat.le_refl _⟩ (Nat.le_of_ble_eq_true rfl) ?_
          refine r_iload_n dX5_figureIn_13 rfl ?_
          refine r_iload_n dX5_figureIn_14 rfl ?_
          refine r_pc 15 rfl ?_
          refine r_cV dX5_figureIn_15 (s_isWord hB hs he (by omega)) lX5_56 rfl rfl rfl (by decide) ⟨Nat.le_refl _, Nat.le_refl _⟩ (Nat.le_of_ble_eq_true rfl) ?_
          rw [hw]
          refine r_if_eq 23 dX5_figureIn_18 (by decide) (fun h18 => ?_) (fun h18 => ?_)
          · exact absurd h18 (by decide)
          · refine r_pc 21 rfl ?_
            refine r_iload_n dX5_figureIn_21 rfl ?_
            exact r_iret dX5_figureIn_22 rfl rfl rfl
      | false =>
        rw [if_neg (by decide)]
        refine r_iload_n dX5_figureIn_2 rfl ?_
        refine r_bipush (v := (nI 12)) dX5_figureIn_3 (by decide) ?_
        refine r_icmp_geN 29 dX5_figureIn_5 (by decide) (by omega) (by omega) (fun h5 => ?_) (fun h5 => ?_)
        · exact absurd h5 (by omega)
        · refine r_pc 8 rfl ?_
          refine r_aload_n dX5_figureIn_8 rfl ?_
          refine r_iload_n dX5_figureIn_9 rfl ?_
          refine r_cS dX5_figureIn_10 hof lX5_60 rfl rfl (by decide) ⟨Nat.le_refl _, Nat.le_refl _⟩ (Nat.le_of_ble_eq_true rfl) ?_
          refine r_iload_n dX5_figureIn_13 rfl ?_
          refine r_iload_n dX5_figureIn_14 rfl ?_
          refine r_pc 15 rfl ?_
          refine r_cV dX5_figureIn_15 (s_isWord hB hs he (by omega)) lX5_56 rfl rfl rfl (by decide) ⟨Nat.le_refl _, Nat.le_refl _⟩ (Nat.le_of_ble_eq_true rfl) ?_
          rw [hw]
          refine r_if_eq 23 dX5_figureIn_18 (by decide) (fun h18 => ?_) (fun h18 => ?_)
          · refine r_pc 23 rfl ?_
            refine r_inc1 (ls' := [_, _, _, _]) dX5_figureIn_23 (by decide) rfl rfl ?_
            refine r_goto 2 dX5_figureIn_26 (by decide) ?_
            refine r_pc 2 rfl ?_
            exact ih (k + 1) (by omega)
          · exact absurd rfl h18
  refine r_iconst (v := (nI 0)) dX5_figureIn_0 (by decide) ?_
  refine r_istore_n (ls' := [_, _, _, _]) dX5_figureIn_1 (by decide) rfl ?_
  refine r_pc 2 rfl ?_
  exact Lp 12 0 (by omega)
theorem s_addCalls {l : List Nat} {x t : Nat} (hl : l.length + t ≤ 120) : Sem mX5_addCalls 1 0 0 [.ref 1, .int (nI x), .int (nI t)] (cW tb tl (putL tc l) (nI l.length) fc ff fs ft fu fw fy fd dc dp dq dn dm ec ep eq en em ik lr ln ly wh wr wf wb wn gz wc ws wa pw pf pl ta, R) none (cW tb tl (putL tc (l ++ List.replicate t x)) (nI (l.length + t)) fc ff fs ft fu fw fy fd dc dp dq dn dm ec ep eq en em ik lr ln ly wh wr wf wb wn gz wc ws wa pw pf pl ta, R) := by
  refine sem_of (by decide) (Nat.le_of_ble_eq_true rfl) rfl ?_
  generalize hw0 : (cW tb tl (putL tc l) (nI l.length) fc ff fs ft fu fw fy fd dc dp dq dn dm ec ep eq en em ik lr ln ly wh wr wf wb wn gz wc ws wa pw pf pl ta, R) = w0
  have Lp : ∀ (m i : Nat), i + m = t → Rn mX5_addCalls 1 0 0 w0 none (cW tb tl (putL tc (l ++ List.replicate t x)) (nI (l.length + t)) fc ff fs ft fu fw fy fd dc dp dq dn dm ec ep eq en em ik lr ln ly wh wr wf wb wn gz wc ws wa pw pf pl ta, R) 0 0 2 [some (.ref 1), some (.int (nI x)), some (.int (nI t)), some (.int (nI i))] [] (cW tb tl (putL tc (l ++ List.replicate i x)) (nI (l.length + i)) fc ff fs ft fu fw fy fd dc dp dq dn dm ec ep eq en em ik lr ln ly wh wr wf wb wn gz wc ws wa pw pf pl ta, R) := by
    intro m
    induction m with
    | zero =>
      intro i hi
      have : i = t := by omega
      subst this
      refine r_iload_n dX5_addCalls_2 rfl ?_
      refine r_iload_n dX5_addCalls_3 rfl ?_
      refine r_icmp_geN 42 dX5_addCalls_4 (by decide) (by omega) (by omega) (fun h4 => ?_) (fun h4 => ?_)
      · refine r_pc 42 rfl ?_
        exact r_vret dX5_addCalls_42 rfl rfl rfl
      · exact absurd h4 (by omega)
    | succ m ih =>
      intro i hi
      have ih := ih (i + 1) (by omega)
      have e1 : l ++ List.replicate (i + 1) x = (l ++ List.replicate i x) ++ [x] := by rw [List.append_assoc, ← List.replicate_succ']
      have e2 : (l ++ List.replicate i x).length = l.length + i := by simp
      rw [e1, ← putL_push, e2] at ih
      refine r_iload_n dX5_addCalls_2 rfl ?_
      refine r_iload_n dX5_addCalls_3 rfl ?_
      refine r_icmp_geN 42 dX5_addCalls_4 (by decide) (by omega) (by omega) (fun h4 => ?_) (fun h4 => ?_)
      · exact absurd h4 (by omega)
      · refine r_pc 7 rfl ?_
        refine r_aload_n dX5_addCalls_7 rfl ?_
        refine r_get dX5_addCalls_8 fX5_22 rfl rfl ?_
        refine r_bipush (v := (nI 120)) dX5_addCalls_11 (by decide) ?_
        refine r_icmp_geN 42 dX5_addCalls_13 (by decide) (by omega) (by omega) (fun h13 => ?_) (fun h13 => ?_)
        · exact absurd h13 (by omega)
        · refine r_pc 16 rfl ?_
          refine r_aload_n dX5_addCalls_16 rfl ?_
          refine r_get dX5_addCalls_17 fX5_19 rfl rfl ?_
          refine r_aload_n dX5_addCalls_20 rfl ?_
          refine r_get dX5_addCalls_21 fX5_22 rfl rfl ?_
          refine r_iload_n dX5_addCalls_24 rfl ?_
          refine r_pc 25 rfl ?_
          refine r_iast (w2 := (cW _ _ _ _ _ _ _ _ _ _ _ _ _ _ _ _ _ _ _ _ _ _ _ _ _ _ _ _ _ _ _ _ _ _ _ _ _ _ _, _)) dX5_addCalls_25 rfl rfl (by omega) (by decide) rfl ?_
          refine r_aload_n dX5_addCalls_26 rfl ?_
          refine r_dup dX5_addCalls_27 rfl ?_
          refine r_get dX5_addCalls_28 fX5_22 rfl rfl ?_
          refine r_iconst (v := (nI 1)) dX5_addCalls_31 (by decide) ?_
          refine r_pc 32 rfl ?_
          refine r_iaddN dX5_addCalls_32 ?_
          refine r_put (w2 := (cW _ _ _ _ _ _ _ _ _ _ _ _ _ _ _ _ _ _ _ _ _ _ _ _ _ _ _ _ _ _ _ _ _ _ _ _ _ _ _, _)) dX5_addCalls_33 fX5_22 rfl rfl (Nat.le_of_ble_eq_true rfl) (fun _ => rfl) (fun _ => rfl) rfl ?_
          refine r_inc1 (ls' := [_, _, _, _]) dX5_addCalls_36 (by decide) rfl rfl ?_
          refine r_goto 2 dX5_addCalls_39 (by decide) ?_
          refine r_pc 2 rfl ?_
          exact ih
  subst hw0
  refine r_iconst (v := (nI 0)) dX5_addCalls_0 (by decide) ?_
  refine r_istore_n (ls' := [_, _, _, _]) dX5_addCalls_1 (by decide) rfl ?_
  refine r_pc 2 rfl ?_
  refine r_w (cW tb tl (putL tc (l ++ List.replicate 0 x)) (nI (l.length + 0)) fc ff fs ft fu fw fy fd dc dp dq dn dm ec ep eq en em ik lr ln ly wh wr wf wb wn gz wc ws wa pw pf pl ta, R) (by simp) ?_
  exact Lp t 0 (by omega)
end T1
