/-! ===== the dance as a text ===== -/
def pfd (x : Int32) : Nat → Int32 → List Nat → Int32
  | _, v, [] => v
  | k, v, b :: l => pfd x (k + 1) (if nI k = x then nI b else v) l
theorem pfd_app (x : Int32) : ∀ (l1 l2 : List Nat) (k : Nat) (v : Int32), pfd x k v (l1 ++ l2) = pfd x (k + l1.length) (pfd x k v l1) l2
  | [], l2, k, v => by simp [pfd]
  | b :: l1, l2, k, v => by
    show pfd x (k + 1) _ (l1 ++ l2) = _
    rw [pfd_app x l1 l2 (k + 1), List.length_cons, show k + 1 + l1.length = k + (l1.length + 1) by omega]
    rfl
def callB (w g t : Nat) : List Nat := (if w = 0 then [] else zs w ++ [32]) ++ (zs (9 + g) ++ (if t ≤ 1 then [] else [32, 48 + t]))
def dtx (cd : Nat → Nat) (dc : Nat → Int32) (n : Nat) : Nat → Nat → List Nat
  | 0, _ => []
  | m + 1, i => if i < n then (if i = 0 then [] else [44]) ++ (callB (cd i / 100) (cd i % 100) (sameN dc n i) ++ dtx cd dc n m (i + sameN dc n i)) else []
theorem sfx_ge (dc : Nat → Int32) (n i : Nat) : ∀ m k, k ≤ sfx dc n i m k ∧ sfx dc n i m k ≤ k + m
  | 0, k => ⟨Nat.le_refl _, Nat.le_refl _⟩
  | m + 1, k => by
    unfold sfx
    split
    · have := sfx_ge dc n i m (k + 1); omega
    · omega
theorem sameN_at (dc : Nat → Int32) (n i : Nat) : 1 ≤ sameN dc n i ∧ sameN dc n i ≤ 4 := by
  have := sfx_ge dc n i 3 1
  unfold sameN
  omega
theorem sfx_at (dc : Nat → Int32) (n i : Nat) : ∀ m k, (∀ t, k ≤ t → t < sfx dc n i m k → i + t < n ∧ dc (i + t) = dc i) ∧ (sfx dc n i m k = k + m ∨ ¬ (i + sfx dc n i m k < n ∧ dc (i + sfx dc n i m k) = dc i))
  | 0, k => ⟨fun t h1 h2 => absurd h2 (by unfold sfx; omega), Or.inl rfl⟩
  | m + 1, k => by
    unfold sfx
    split
    · rename_i h
      obtain ⟨h1, h2⟩ := sfx_at dc n i m (k + 1)
      refine ⟨fun t a b => ?_, by rw [show k + (m + 1) = k + 1 + m by omega]; exact h2⟩
      by_cases e : t = k
      · subst e; exact h
      · exact h1 t (by omega) b
    · rename_i h
      exact ⟨fun t a b => absurd b (by omega), Or.inr h⟩
theorem sameN_in {dc : Nat → Int32} {n i t : Nat} (hi : i < n) (h : t < sameN dc n i) : i + t < n ∧ dc (i + t) = dc i := by
  cases t with
  | zero => exact ⟨hi, rfl⟩
  | succ t => exact (sfx_at dc n i 3 1).1 (t + 1) (by omega) h
theorem sameN_end (dc : Nat → Int32) (n i : Nat) : sameN dc n i = 4 ∨ ¬ (i + sameN dc n i < n ∧ dc (i + sameN dc n i) = dc i) := (sfx_at dc n i 3 1).2
theorem callB_len : ∀ w, w < 9 → ∀ g, g < 12 → ∀ t, t < 5 → (callB w g t).length ≤ 17 := by decide +kernel
theorem callB_pos : ∀ w, w < 9 → ∀ g, g < 12 → ∀ t, t < 5 → 1 ≤ (callB w g t).length := by decide +kernel
/-- a comma between calls -/
def cmm (k : Nat) : List Nat := if k = 0 then [] else [44]
theorem cmm_len (k : Nat) : (cmm k).length ≤ 1 := by unfold cmm; split <;> simp
/-- the calls of the dance -/
def Cd (dc : Nat → Int32) (n : Nat) (cd : Nat → Nat) : Prop := ∀ j, j < n → dc j = nI (cd j) ∧ cd j / 100 < 9 ∧ cd j % 100 < 12
section P1
variable {tb : Nat → Int32} {tl : Int32} {tc : Nat → Int32} {tn : Int32} {fc ff fs ft fu fw : Nat → Int32} {fy fd : Int32} {dc : Nat → Int32} {dp dq : Nat → Int64} {dn dm : Int32} {ec : Nat → Int32} {ep eq : Nat → Int64} {en em ik : Int32} {lr : Nat → Int32} {ln ly : Int32} {wh : Int64} {wr : Nat → Int64} {wf wb : Nat → Int32} {wn : Int32} {gz : G8} {wc : Nat → Int32} {ws : Int64} {wa pw pf pl : Int32} {ta : Nat → Int32}
variable {R : List AE}
theorem s_putP {k : Nat} {x : Int32} : Sem mX4_put 1 0 0 [.ref 33, .int x] (cW tb tl tc tn fc ff fs ft fu fw fy fd dc dp dq dn dm ec ep eq en em ik lr ln ly wh wr wf wb wn gz wc ws wa pw pf (nI k) ta, R) none (cW tb tl tc tn fc ff fs ft fu fw fy fd dc dp dq dn dm ec ep eq en em ik lr ln ly wh wr wf wb wn gz wc ws wa pw (if nI k = pw then x else pf) (nI (k + 1)) ta, R) := by
  refine sem_of (by decide) (Nat.le_of_ble_eq_true rfl) rfl ?_
  refine r_aload_n dX4_put_0 rfl ?_
  refine r_get dX4_put_1 fX4_18 rfl rfl ?_
  refine r_aload_n dX4_put_4 rfl ?_
  refine r_get dX4_put_5 fX4_9 rfl rfl ?_
  refine r_icmp_ne 16 dX4_put_8 (by decide) (fun h8 => ?_) (fun h8 => ?_)
  · rw [if_neg h8]
    refine r_pc 16 rfl ?_
    refine r_aload_n dX4_put_16 rfl ?_
    refine r_dup dX4_put_17 rfl ?_
    refine r_get dX4_put_18 fX4_18 rfl rfl ?_
    refine r_iconst (v := (nI 1)) dX4_put_21 (by decide) ?_
    refine r_iaddN dX4_put_22 ?_
    refine r_pc 23 rfl ?_
    refine r_put (w2 := (cW _ _ _ _ _ _ _ _ _ _ _ _ _ _ _ _ _ _ _ _ _ _ _ _ _ _ _ _ _ _ _ _ _ _ _ _ _ _ _, _)) dX4_put_23 fX4_18 rfl rfl (Nat.le_of_ble_eq_true rfl) (fun _ => rfl) (fun _ => rfl) rfl ?_
    exact r_vret dX4_put_26 rfl rfl rfl
  · rw [if_pos h8]
    refine r_pc 11 rfl ?_
    refine r_aload_n dX4_put_11 rfl ?_
    refine r_iload_n dX4_put_12 rfl ?_
    refine r_put (w2 := (cW _ _ _ _ _ _ _ _ _ _ _ _ _ _ _ _ _ _ _ _ _ _ _ _ _ _ _ _ _ _ _ _ _ _ _ _ _ _ _, _)) dX4_put_13 fX4_15 rfl rfl (Nat.le_of_ble_eq_true rfl) (fun _ => rfl) (fun _ => rfl) rfl ?_
    refine r_aload_n dX4_put_16 rfl ?_
    refine r_dup dX4_put_17 rfl ?_
    refine r_pc 18 rfl ?_
    refine r_get dX4_put_18 fX4_18 rfl rfl ?_
    refine r_iconst (v := (nI 1)) dX4_put_21 (by decide) ?_
    refine r_iaddN dX4_put_22 ?_
    refine r_put (w2 := (cW _ _ _ _ _ _ _ _ _ _ _ _ _ _ _ _ _ _ _ _ _ _ _ _ _ _ _ _ _ _ _ _ _ _ _ _ _ _ _, _)) dX4_put_23 fX4_18 rfl rfl (Nat.le_of_ble_eq_true rfl) (fun _ => rfl) (fun _ => rfl) rfl ?_
    exact r_vret dX4_put_26 rfl rfl rfl
theorem s_putWord {k i : Nat} (hi : i < 21) : Sem mX4_putWord 5 0 0 [.ref 33, .ref (2000 + i)] (cW tb tl tc tn fc ff fs ft fu fw fy fd dc dp dq dn dm ec ep eq en em ik lr ln ly wh wr wf wb wn gz wc ws wa pw pf (nI k) ta, R) none (cW tb tl tc tn fc ff fs ft fu fw fy fd dc dp dq dn dm ec ep eq en em ik lr ln ly wh wr wf wb wn gz wc ws wa pw (pfd pw k pf (zs i)) (nI (k + (zs i).length)) ta, R) := by
  refine sem_of (by decide) (Nat.le_of_ble_eq_true rfl) rfl ?_
  have hq := zs_at i hi
  have hq8 := (zt_small hq).1
  generalize hw0 : (cW tb tl tc tn fc ff fs ft fu fw fy fd dc dp dq dn dm ec ep eq en em ik lr ln ly wh wr wf wb wn gz wc ws wa pw pf (nI k) ta, R) = w0
  have L : ∀ (m j : Nat), j + m = (zs i).length → Rn mX4_putWord 5 0 0 w0 none (cW tb tl tc tn fc ff fs ft fu fw fy fd dc dp dq dn dm ec ep eq en em ik lr ln ly wh wr wf wb wn gz wc ws wa pw (pfd pw k pf (zs i)) (nI (k + (zs i).length)) ta, R) 0 0 2 [some (.ref 33), some (.ref (2000 + i)), some (.int (nI j))] [] (cW tb tl tc tn fc ff fs ft fu fw fy fd dc dp dq dn dm ec ep eq en em ik lr ln ly wh wr wf wb wn gz wc ws wa pw (pfd pw k pf ((zs i).take j)) (nI (k + j)) ta, R) := by
    intro m
    induction m with
    | zero =>
      intro j hj
      have : j = (zs i).length := by omega
      subst this
      rw [List.take_length]
      refine r_iload_n dX4_putWord_2 rfl ?_
      refine r_aload_n dX4_putWord_3 rfl ?_
      refine r_cT dX4_putWord_4 hq (s_strlen _ hq) lX4_55 rfl rfl (by decide) ⟨Nat.le_refl _, Nat.le_refl _⟩ (Nat.le_of_ble_eq_true rfl) ?_
      refine r_icmp_geN 25 dX4_putWord_7 (by decide) (by omega) (by omega) (fun h7 => ?_) (fun h7 => ?_)
      · refine r_pc 25 rfl ?_
        exact r_vret dX4_putWord_25 rfl rfl rfl
      · exact absurd h7 (by omega)
    | succ m ih =>
      intro j hj
      have hjl : j < (zs i).length := by omega
      have ih := ih (j + 1) (by omega)
      have e1 : (zs i).take (j + 1) = (zs i).take j ++ [(zs i).getD j 0] := by
        rw [List.take_add_one, List.getElem?_eq_getElem hjl, List.getD_eq_getElem?_getD, List.getElem?_eq_getElem hjl]
        rfl
      have e2 : ((zs i).take j).length = j := by rw [List.length_take]; omega
      rw [e1, pfd_app, e2] at ih
      refine r_iload_n dX4_putWord_2 rfl ?_
      refine r_aload_n dX4_putWord_3 rfl ?_
      refine r_cT dX4_putWord_4 hq (s_strlen _ hq) lX4_55 rfl rfl (by decide) ⟨Nat.le_refl _, Nat.le_refl _⟩ (Nat.le_of_ble_eq_true rfl) ?_
      refine r_icmp_geN 25 dX4_putWord_7 (by decide) (by omega) (by omega) (fun h7 => ?_) (fun h7 => ?_)
      · exact absurd h7 (by omega)
      · refine r_pc 10 rfl ?_
        refine r_aload_n dX4_putWord_10 rfl ?_
        refine r_aload_n dX4_putWord_11 rfl ?_
        refine r_iload_n dX4_putWord_12 rfl ?_
        refine r_cT dX4_putWord_13 hq (s_charAt _ hq hjl) lX4_60 rfl rfl (by decide) ⟨Nat.le_refl _, Nat.le_refl _⟩ (Nat.le_of_ble_eq_true rfl) ?_
        refine r_cVv dX4_putWord_16 s_putP lX4_38 rfl rfl rfl (by decide) ⟨Nat.le_refl _, Nat.le_refl _⟩ (Nat.le_of_ble_eq_true rfl) ?_
        refine r_pc 19 rfl ?_
        refine r_inc1 (ls' := [_, _, _]) dX4_putWord_19 (by decide) rfl rfl ?_
        refine r_goto 2 dX4_putWord_22 (by decide) ?_
        refine r_pc 2 rfl ?_
        exact ih
  subst hw0
  refine r_iconst (v := (nI 0)) dX4_putWord_0 (by decide) ?_
  refine r_istore_n (ls' := [_, _, _]) dX4_putWord_1 (by decide) rfl ?_
  refine r_pc 2 rfl ?_
  exact L _ 0 (Nat.zero_add _)
theorem s_writeCall {k w g t : Nat} (hw : w < 9) (hg : g < 12) (ht : t ≤ 4) (hk : k < 2 ^ 31) : Sem mX4_writeCall 6 0 0 [.ref 33, .int (nI (100 * w + g)), .int (nI t)] (cW tb tl tc tn fc ff fs ft fu fw fy fd dc dp dq dn dm ec ep eq en em ik lr ln ly wh wr wf wb wn gz wc ws wa pw pf (nI k) ta, R) none (cW tb tl tc tn fc ff fs ft fu fw fy fd dc dp dq dn dm ec ep eq en em ik lr ln ly wh wr wf wb wn gz wc ws wa pw (pfd pw k pf (cmm k ++ callB w g t)) (nI (k + (cmm k ++ callB w g t).length)) ta, R) := by
  refine sem_of (by decide) (Nat.le_of_ble_eq_true rfl) rfl ?_
  have hr : (100 * w + g) % 100 = g := by omega
  have hq : (100 * w + g) / 100 = w := by omega
  generalize hw0 : (cW tb tl tc tn fc ff fs ft fu fw fy fd dc dp dq dn dm ec ep eq en em ik lr ln ly wh wr wf wb wn gz wc ws wa pw pf (nI k) ta, R) = w0
  have hof : ∀ w' : WD, Sem mX7_ofFigure 1 0 0 [.int (nI g)] w' (some (.ref (2000 + (9 + g)))) w' := by
    intro w'
    have := s_ofFigure w' (n := g) hg
    rw [show 2009 + g = 2000 + (9 + g) by omega] at this
    exact this
  have T : ∀ (l : List Nat), Rn mX4_writeCall 6 0 0 w0 none (cW tb tl tc tn fc ff fs ft fu fw fy fd dc dp dq dn dm ec ep eq en em ik lr ln ly wh wr wf wb wn gz wc ws wa pw (pfd pw k pf (l ++ (zs (9 + g) ++ (if t ≤ 1 then [] else [32, 48 + t])))) (nI (k + (l ++ (zs (9 + g) ++ (if t ≤ 1 then [] else [32, 48 + t]))).length)) ta, R) 0 0 36 [some (.ref 33), some (.int (nI (100 * w + g))), some (.int (nI t)), some (.int (nI w))] [] (cW tb tl tc tn fc ff fs ft fu fw fy fd dc dp dq dn dm ec ep eq en em ik lr ln ly wh wr wf wb wn gz wc ws wa pw (pfd pw k pf l) (nI (k + l.length)) ta, R) := by
    intro l
    have G : Rn mX4_writeCall 6 0 0 w0 none (cW tb tl tc tn fc ff fs ft fu fw fy fd dc dp dq dn dm ec ep eq en em ik lr ln ly wh wr wf wb wn gz wc ws wa pw (pfd pw k pf ((l ++ zs (9 + g)) ++ (if t ≤ 1 then [] else [32, 48 + t]))) (nI (k + ((l ++ zs (9 + g)) ++ (if t ≤ 1 then [] else [32, 48 + t])).length)) ta, R) 0 0 47 [some (.ref 33), some (.int (nI (100 * w + g))), some (.int (nI t)), some (.int (nI w))] [] (cW tb tl tc tn fc ff fs ft fu fw fy fd dc dp dq dn dm ec ep eq en em ik lr ln ly wh wr wf wb wn gz wc ws wa pw (pfd pw k pf (l ++ zs (9 + g))) (nI (k + (l ++ zs (9 + g)).length)) ta, R) := by
      by_cases ht1 : t ≤ 1
      · rw [if_pos ht1, List.append_nil]
        refine r_iload_n dX4_writeCall_47 rfl ?_
        refine r_iconst (v := (nI 1)) dX4_writeCall_48 (by decide) ?_
        refine r_icmp_leN 66 dX4_writeCall_49 (by decide) (by omega) (by omega) (fun h49 => ?_) (fun h49 => ?_)
        · refine r_pc 66 rfl ?_
          exact r_vret dX4_writeCall_66 rfl rfl rfl
        · exact absurd h49 (by omega)
      · rw [if_neg ht1]
        generalize l ++ zs (9 + g) = l2
        have e1 : (l2 ++ [32, 48 + t]).length = l2.length + 1 + 1 := by simp
        have e2 : pfd pw k pf (l2 ++ [32, 48 + t]) = (if nI (k + l2.length + 1) = pw then nI (48 + t) else if nI (k + l2.length) = pw then nI 32 else pfd pw k pf l2) := by rw [pfd_app]; rfl
        rw [e1, e2]
        refine r_iload_n dX4_writeCall_47 rfl ?_
        refine r_iconst (v := (nI 1)) dX4_writeCall_48 (by decide) ?_
        refine r_icmp_leN 66 dX4_writeCall_49 (by decide) (by omega) (by omega) (fun h49 => ?_) (fun h49 => ?_)
        · exact absurd h49 (by omega)
        · refine r_pc 52 rfl ?_
          refine r_aload_n dX4_writeCall_52 rfl ?_
          refine r_bipush (v := (nI 32)) dX4_writeCall_53 (by decide) ?_
          refine r_cVv dX4_writeCall_55 s_putP lX4_38 rfl rfl rfl (by decide) ⟨Nat.le_refl _, Nat.le_refl _⟩ (Nat.le_of_ble_eq_true rfl) ?_
          refine r_aload_n dX4_writeCall_58 rfl ?_
          refine r_bipush (v := (nI 48)) dX4_writeCall_59 (by decide) ?_
          refine r_pc 61 rfl ?_
          refine r_iload_n dX4_writeCall_61 rfl ?_
          refine r_iaddN dX4_writeCall_62 ?_
          refine r_cVv dX4_writeCall_63 s_putP lX4_38 rfl rfl rfl (by decide) ⟨Nat.le_refl _, Nat.le_refl _⟩ (Nat.le_of_ble_eq_true rfl) ?_
          exact r_vret dX4_writeCall_66 rfl rfl rfl
    have e1 : l ++ (zs (9 + g) ++ (if t ≤ 1 then [] else [32, 48 + t])) = (l ++ zs (9 + g)) ++ (if t ≤ 1 then [] else [32, 48 + t]) := (List.append_assoc _ _ _).symm
    rw [e1]
    rw [List.length_append (as := l) (bs := zs (9 + g)), pfd_app pw l (zs (9 + g)), ← Nat.add_assoc] at G
    refine r_aload_n dX4_writeCall_36 rfl ?_
    refine r_iload_n dX4_writeCall_37 rfl ?_
    refine r_bipush (v := (nI 100)) dX4_writeCall_38 (by decide) ?_
    refine r_iremN dX4_writeCall_40 (by omega) (by decide) (by decide) ?_
    rw [hr]
    refine r_cS dX4_writeCall_41 (hof _) lX4_52 rfl rfl (by decide) ⟨Nat.le_refl _, Nat.le_refl _⟩ (Nat.le_of_ble_eq_true rfl) ?_
    refine r_pc 44 rfl ?_
    refine r_cVv dX4_writeCall_44 (s_putWord (by omega)) lX4_48 rfl rfl rfl (by decide) ⟨Nat.le_refl _, Nat.le_refl _⟩ (Nat.le_of_ble_eq_true rfl) ?_
    refine r_pc 47 rfl ?_
    exact G
  have U : ∀ (l : List Nat), Rn mX4_writeCall 6 0 0 w0 none (cW tb tl tc tn fc ff fs ft fu fw fy fd dc dp dq dn dm ec ep eq en em ik lr ln ly wh wr wf wb wn gz wc ws wa pw (pfd pw k pf (l ++ callB w g t)) (nI (k + (l ++ callB w g t).length)) ta, R) 0 0 18 [some (.ref 33), some (.int (nI (100 * w + g))), some (.int (nI t)), some (.int (nI w))] [] (cW tb tl tc tn fc ff fs ft fu fw fy fd dc dp dq dn dm ec ep eq en em ik lr ln ly wh wr wf wb wn gz wc ws wa pw (pfd pw k pf l) (nI (k + l.length)) ta, R) := by
    intro l
    unfold callB
    by_cases hw0 : w = 0
    · rw [if_pos hw0, List.nil_append]
      have T := T l
      subst hw0
      refine r_iload_n dX4_writeCall_18 rfl ?_
      refine r_if_eq 36 dX4_writeCall_19 (by decide) (fun h19 => ?_) (fun h19 => ?_)
      · refine r_pc 36 rfl ?_
        refine r_pc 36 rfl ?_
        exact T
      · exact absurd rfl h19
    · rw [if_neg hw0]
      have T := T (l ++ (zs w ++ [32]))
      have e2 : pfd pw k pf (l ++ (zs w ++ [32])) = (if nI (k + l.length + (zs w).length) = pw then nI 32 else pfd pw (k + l.length) (pfd pw k pf l) (zs w)) := by rw [pfd_app, pfd_app]; rfl
      have e3 : k + (l ++ (zs w ++ [32])).length = k + l.length + (zs w).length + 1 := by simp; omega
      rw [e2, e3, List.append_assoc l] at T
      refine r_iload_n dX4_writeCall_18 rfl ?_
      refine r_if_eq 36 dX4_writeCall_19 (by decide) (fun h19 => ?_) (fun h19 => ?_)
      · exact absurd (nI_z (by omega) h19) hw0
      · refine r_pc 22 rfl ?_
        refine r_aload_n dX4_writeCall_22 rfl ?_
        refine r_iload_n dX4_writeCall_23 rfl ?_
        refine r_cS dX4_writeCall_24 (s_ofWho _ hw) lX4_42 rfl rfl (by decide) ⟨Nat.le_refl _, Nat.le_refl _⟩ (Nat.le_of_ble_eq_true rfl) ?_
        refine r_cVv dX4_writeCall_27 (s_putWord (by omega)) lX4_48 rfl rfl rfl (by decide) ⟨Nat.le_refl _, Nat.le_refl _⟩ (Nat.le_of_ble_eq_true rfl) ?_
        refine r_aload_n dX4_writeCall_30 rfl ?_
        refine r_pc 31 rfl ?_
        refine r_bipush (v := (nI 32)) dX4_writeCall_31 (by decide) ?_
        refine r_cVv dX4_writeCall_33 s_putP lX4_38 rfl rfl rfl (by decide) ⟨Nat.le_refl _, Nat.le_refl _⟩ (Nat.le_of_ble_eq_true rfl) ?_
        refine r_pc 36 rfl ?_
        exact T
  subst hw0
  by_cases hk0 : k = 0
  · have U := U []
    subst hk0
    refine r_iload_n dX4_writeCall_0 rfl ?_
    refine r_bipush (v := (nI 100)) dX4_writeCall_1 (by decide) ?_
    refine r_idivN dX4_writeCall_3 (by omega) (by decide) (by decide) ?_
    rw [hq]
    refine r_istore_n (ls' := [_, _, _, _]) dX4_writeCall_4 (by decide) rfl ?_
    refine r_aload_n dX4_writeCall_5 rfl ?_
    refine r_pc 6 rfl ?_
    refine r_get dX4_writeCall_6 fX4_18 rfl rfl ?_
    refine r_if_le 18 dX4_writeCall_9 (by decide) (fun h9 => ?_) (fun h9 => ?_)
    · refine r_pc 18 rfl ?_
      refine r_pc 18 rfl ?_
      exact U
    · exact absurd (by decide) h9
  · have e : cmm k = [44] := by unfold cmm; rw [if_neg hk0]
    rw [e]
    have U := U [44]
    refine r_iload_n dX4_writeCall_0 rfl ?_
    refine r_bipush (v := (nI 100)) dX4_writeCall_1 (by decide) ?_
    refine r_idivN dX4_writeCall_3 (by omega) (by decide) (by decide) ?_
    rw [hq]
    refine r_istore_n (ls' := [_, _, _, _]) dX4_writeCall_4 (by decide) rfl ?_
    refine r_aload_n dX4_writeCall_5 rfl ?_
    refine r_pc 6 rfl ?_
    refine r_get dX4_writeCall_6 fX4_18 rfl rfl ?_
    refine r_if_le 18 dX4_writeCall_9 (by decide) (fun h9 => ?_) (fun h9 => ?_)
    · exact absurd h9 (nI_nle (by omega) hk)
    · refine r_pc 12 rfl ?_
      refine r_aload_n dX4_writeCall_12 rfl ?_
      refine r_bipush (v := (nI 44)) dX4_writeCall_13 (by decide) ?_
      refine r_cVv dX4_writeCall_15 s_putP lX4_38 rfl rfl rfl (by decide) ⟨Nat.le_refl _, Nat.le_refl _⟩ (Nat.le_of_ble_eq_true rfl) ?_
      refine r_pc 18 rfl ?_
      exact U
theorem s_write {n : Nat} {x : Int32} {cd : Nat → Nat} (hn : n ≤ 200) (hc : Cd dc n cd) : Sem mX4_write 7 0 0 [.ref 33, .ref 11, .int x] (cW tb tl tc tn fc ff fs ft fu fw fy fd dc dp dq (nI n) dm ec ep eq en em ik lr ln ly wh wr wf wb wn gz wc ws wa pw pf pl ta, R) none (cW tb tl tc tn fc ff fs ft fu fw fy fd dc dp dq (nI n) dm ec ep eq en em ik lr ln ly wh wr wf wb wn gz wc ws wa (x) (pfd x 0 pf (dtx cd dc n 200 0)) (nI (dtx cd dc n 200 0).length) ta, R) := by
  refine sem_of (by decide) (Nat.le_of_ble_eq_true rfl) rfl ?_
  generalize hw0 : (cW tb tl tc tn fc ff fs ft fu fw fy fd dc dp dq (nI n) dm ec ep eq en em ik lr ln ly wh wr wf wb wn gz wc ws wa pw pf pl ta, R) = w0
  have L : ∀ (m i : Nat) (l : List Nat), n ≤ i + m → i ≤ 200 → l.length ≤ 18 * i → (l.length = 0 ↔ i = 0) → Rn mX4_write 7 0 0 w0 none (cW tb tl tc tn fc ff fs ft fu fw fy fd dc dp dq (nI n) dm ec ep eq en em ik lr ln ly wh wr wf wb wn gz wc ws wa (x) (pfd x 0 pf (l ++ dtx cd dc n m i)) (nI (l ++ dtx cd dc n m i).length) ta, R) 0 0 15 [some (.ref 33), some (.ref 11), some (.int x), some (.int (nI 0)), some (.int (nI i))] [] (cW tb tl tc tn fc ff fs ft fu fw fy fd dc dp dq (nI n) dm ec ep eq en em ik lr ln ly wh wr wf wb wn gz wc ws wa (x) (pfd x 0 pf l) (nI l.length) ta, R) := by
    intro m
    induction m with
    | zero =>
      intro i l hi hi2 hl hz
      unfold dtx
      rw [List.append_nil]
      refine r_iload dX4_write_15 rfl ?_
      refine r_aload_n dX4_write_17 rfl ?_
      refine r_get dX4_write_18 fX4_21 rfl rfl ?_
      refine r_icmp_geN 60 dX4_write_21 (by decide) (by omega) (by omega) (fun h21 => ?_) (fun h21 => ?_)
      · refine r_pc 60 rfl ?_
        exact r_vret dX4_write_60 rfl rfl rfl
      · exact absurd h21 (by omega)
    | succ m ih =>
      intro i l hi hi2 hl hz
      unfold dtx
      by_cases hin : i < n
      · rw [if_pos hin]
        obtain ⟨e1, b1, b2⟩ := hc i hin
        obtain ⟨s1, s2⟩ := sameN_at dc n i
        have e2 : cd i = 100 * (cd i / 100) + cd i % 100 := by omega
        have hin2 : ∀ t, t < sameN dc n i → i + t < n ∧ dc (i + t) = dc i := fun t h => sameN_in hin h
        have hend := sameN_end dc n i
        have ecm : (if i = 0 then [] else [44]) = cmm l.length := by
          unfold cmm
          by_cases h0 : i = 0
          · rw [if_pos h0, if_pos (hz.mpr h0)]
          · rw [if_neg h0, if_neg (fun q => h0 (hz.mp q))]
        rw [ecm]
        generalize sameN dc n i = s at s1 s2 hin2 hend ⊢
        have c1 := callB_len _ b1 _ b2 s (by omega)
        have c2 := callB_pos _ b1 _ b2 s (by omega)
        have c3 := cmm_len l.length
        have hlast : i + s ≤ n := by
          have := (hin2 (s - 1) (by omega)).1
          omega
        have ih := ih (i + s) (l ++ (cmm l.length ++ callB (cd i / 100) (cd i % 100) s)) (by omega) (by omega) (by rw [List.length_append, List.length_append]; omega) (by rw [List.length_append, List.length_append]; omega)
        rw [List.append_assoc, List.append_assoc, List.length_append (as := l) (bs := cmm _ ++ callB _ _ _), pfd_app x l (cmm _ ++ callB _ _ _), Nat.zero_add] at ih
        have I : ∀ (y t : Nat), t + y + 1 = s → Rn mX4_write 7 0 0 w0 none (cW tb tl tc tn fc ff fs ft fu fw fy fd dc dp dq (nI n) dm ec ep eq en em ik lr ln ly wh wr wf wb wn gz wc ws wa (x) (pfd x 0 pf (l ++ (cmm l.length ++ (callB (cd i / 100) (cd i % 100) s ++ dtx cd dc n m (i + s))))) (nI (l ++ (cmm l.length ++ (callB (cd i / 100) (cd i % 100) s ++ dtx cd dc n m (i + s)))).length) ta, R) 0 0 15 [some (.ref 33), some (.ref 11), some (.int x), some (.int (nI t)), some (.int (nI (i + t)))] [] (cW tb tl tc tn fc ff fs ft fu fw fy fd dc dp dq (nI n) dm ec ep eq en em ik lr ln ly wh wr wf wb wn gz wc ws wa (x) (pfd x 0 pf l) (nI l.length) ta, R) := by
          intro y
          induction y with
          | zero =>
            intro t ht
            obtain ⟨h1, h2⟩ := hin2 t (by omega)
            have ht : s = t + 1 := by omega
            have hd : t + 1 = 4 ∨ decide (i + t + 1 < n ∧ dc (i + t) = dc (i + t + 1)) = false := by
              rw [ht] at hend
              rcases hend with h | h
              · exact Or.inl h
              · exact Or.inr (decide_eq_false (fun q => h ⟨q.1, by rw [← h2]; exact q.2.symm⟩))
            have ih2 := ih
            rw [ht] at ih2 ⊢
            have ht4 : t + 1 ≤ 4 := by omega
            refine r_iload dX4_write_15 rfl ?_
            refine r_aload_n dX4_write_17 rfl ?_
            refine r_get dX4_write_18 fX4_21 rfl rfl ?_
            refine r_icmp_geN 60 dX4_write_21 (by decide) (by omega) (by omega) (fun h21 => ?_) (fun h21 => ?_)
            · exact absurd h21 (by omega)
            · refine r_pc 24 rfl ?_
              refine r_inc1 (ls' := [_, _, _, _, _]) dX4_write_24 (by decide) rfl rfl ?_
              refine r_iload_n dX4_write_27 rfl ?_
              refine r_iconst (v := (nI 4)) dX4_write_28 (by decide) ?_
              refine r_icmp_eqN 41 dX4_write_29 (by decide) (by omega) (by omega) (fun h29 => ?_) (fun h29 => ?_)
              · refine r_pc 41 rfl ?_
                refine r_aload_n dX4_write_41 rfl ?_
                refine r_aload_n dX4_write_42 rfl ?_
                refine r_iload dX4_write_43 rfl ?_
                refine r_cV dX4_write_45 (s_codeAtD hn h1) lX4_30 rfl rfl rfl (by decide) ⟨Nat.le_refl _, Nat.le_refl _⟩ (Nat.le_of_ble_eq_true rfl) ?_
                refine r_topi (nI (100 * (cd i / 100) + cd i % 100)) (by rw [h2, e1, ← e2]) ?_
                refine r_iload_n dX4_write_48 rfl ?_
                refine r_pc 49 rfl ?_
                refine r_cVv dX4_write_49 (s_writeCall b1 b2 ht4 (by omega)) lX4_34 rfl rfl rfl (by decide) ⟨Nat.le_refl _, Nat.le_refl _⟩ (Nat.le_of_ble_eq_true rfl) ?_
                refine r_iconst (v := (nI 0)) dX4_write_52 (by decide) ?_
                refine r_istore_n (ls' := [_, _, _, _, _]) dX4_write_53 (by decide) rfl ?_
                refine r_inc1 (ls' := [_, _, _, _, _]) dX4_write_54 (by decide) rfl rfl ?_
                refine r_goto 15 dX4_write_57 (by decide) ?_
                refine r_pc 15 rfl ?_
                exact ih2
              · refine r_pc 32 rfl ?_
                refine r_aload_n dX4_write_32 rfl ?_
                refine r_iload dX4_write_33 rfl ?_
                refine r_cV dX4_write_35 (s_isSame hn h1) lX4_26 rfl rfl rfl (by decide) ⟨Nat.le_refl _, Nat.le_refl _⟩ (Nat.le_of_ble_eq_true rfl) ?_
                rw [hd.resolve_left h29]
                refine r_if_ne 54 dX4_write_38 (by decide) (fun h38 => ?_) (fun h38 => ?_)
                · exact absurd rfl h38
                · refine r_pc 41 rfl ?_
                  refine r_aload_n dX4_write_41 rfl ?_
                  refine r_aload_n dX4_write_42 rfl ?_
                  refine r_iload dX4_write_43 rfl ?_
                  refine r_cV dX4_write_45 (s_codeAtD hn h1) lX4_30 rfl rfl rfl (by decide) ⟨Nat.le_refl _, Nat.le_refl _⟩ (Nat.le_of_ble_eq_true rfl) ?_
                  refine r_topi (nI (100 * (cd i / 100) + cd i % 100)) (by rw [h2, e1, ← e2]) ?_
                  refine r_iload_n dX4_write_48 rfl ?_
                  refine r_pc 49 rfl ?_
                  refine r_cVv dX4_write_49 (s_writeCall b1 b2 ht4 (by omega)) lX4_34 rfl rfl rfl (by decide) ⟨Nat.le_refl _, Nat.le_refl _⟩ (Nat.le_of_ble_eq_true rfl) ?_
                  refine r_iconst (v := (nI 0)) dX4_write_52 (by decide) ?_
                  refine r_istore_n (ls' := [_, _, _, _, _]) dX4_write_53 (by decide) rfl ?_
                  refine r_inc1 (ls' := [_, _, _, _, _]) dX4_write_54 (by decide) rfl rfl ?_
                  refine r_goto 15 dX4_write_57 (by decide) ?_
                  refine r_pc 15 rfl ?_
                  exact ih2
          | succ y ihy =>
            intro t ht
            obtain ⟨h1, h2⟩ := hin2 t (by omega)
            obtain ⟨h3, h4⟩ := hin2 (t + 1) (by omega)
            have hd : decide (i + t + 1 < n ∧ dc (i + t) = dc (i + t + 1)) = true := decide_eq_true ⟨h3, by rw [h2]; exact h4.symm⟩
            have ihy := ihy (t + 1) (by omega)
            refine r_iload dX4_write_15 rfl ?_
            refine r_aload_n dX4_write_17 rfl ?_
            refine r_get dX4_write_18 fX4_21 rfl rfl ?_
            refine r_icmp_geN 60 dX4_write_21 (by decide) (by omega) (by omega) (fun h21 => ?_) (fun h21 => ?_)
            · exact absurd h21 (by omega)
            · refine r_pc 24 rfl ?_
              refine r_inc1 (ls' := [_, _, _, _, _]) dX4_write_24 (by decide) rfl rfl ?_
              refine r_iload_n dX4_write_27 rfl ?_
              refine r_iconst (v := (nI 4)) dX4_write_28 (by decide) ?_
              refine r_icmp_eqN 41 dX4_write_29 (by decide) (by omega) (by omega) (fun h29 => ?_) (fun h29 => ?_)
              · exact absurd h29 (by omega)
              · refine r_pc 32 rfl ?_
                refine r_aload_n dX4_write_32 rfl ?_
                refine r_iload dX4_write_33 rfl ?_
                refine r_cV dX4_write_35 (s_isSame hn h1) lX4_26 rfl rfl rfl (by decide) ⟨Nat.le_refl _, Nat.le_refl _⟩ (Nat.le_of_ble_eq_true rfl) ?_
                rw [hd]
                refine r_if_ne 54 dX4_write_38 (by decide) (fun h38 => ?_) (fun h38 => ?_)
                · refine r_pc 54 rfl ?_
                  refine r_inc1 (ls' := [_, _, _, _, _]) dX4_write_54 (by decide) rfl rfl ?_
                  refine r_goto 15 dX4_write_57 (by decide) ?_
                  refine r_pc 15 rfl ?_
                  exact ihy
                · exact absurd h38 (by decide)
        exact I (s - 1) 0 (by omega)
      · rw [if_neg hin, List.append_nil]
        refine r_iload dX4_write_15 rfl ?_
        refine r_aload_n dX4_write_17 rfl ?_
        refine r_get dX4_write_18 fX4_21 rfl rfl ?_
        refine r_icmp_geN 60 dX4_write_21 (by decide) (by omega) (by omega) (fun h21 => ?_) (fun h21 => ?_)
        · refine r_pc 60 rfl ?_
          exact r_vret dX4_write_60 rfl rfl rfl
        · exact absurd h21 hin
  subst hw0
  refine r_aload_n dX4_write_0 rfl ?_
  refine r_iload_n dX4_write_1 rfl ?_
  refine r_put (w2 := (cW _ _ _ _ _ _ _ _ _ _ _ _ _ _ _ _ _ _ _ _ _ _ _ _ _ _ _ _ _ _ _ _ _ _ _ _ _ _ _, _)) dX4_write_2 fX4_9 rfl rfl (Nat.le_of_ble_eq_true rfl) (fun _ => rfl) (fun _ => rfl) rfl ?_
  refine r_aload_n dX4_write_5 rfl ?_
  refine r_iconst (v := (nI 0)) dX4_write_6 (by decide) ?_
  refine r_pc 7 rfl ?_
  refine r_put (w2 := (cW _ _ _ _ _ _ _ _ _ _ _ _ _ _ _ _ _ _ _ _ _ _ _ _ _ _ _ _ _ _ _ _ _ _ _ _ _ _ _, _)) dX4_write_7 fX4_18 rfl rfl (Nat.le_of_ble_eq_true rfl) (fun _ => rfl) (fun _ => rfl) rfl ?_
  refine r_iconst (v := (nI 0)) dX4_write_10 (by decide) ?_
  refine r_istore_n (ls' := [_, _, _, _, _]) dX4_write_11 (by decide) rfl ?_
  refine r_iconst (v := (nI 0)) dX4_write_12 (by decide) ?_
  refine r_istore (ls' := [_, _, _, _, _]) dX4_write_13 (by decide) rfl ?_
  refine r_pc 15 rfl ?_
  refine r_pc 15 rfl ?_
  exact L 200 0 [] (by omega) (by omega) (Nat.zero_le _) (by simp)
end P1
