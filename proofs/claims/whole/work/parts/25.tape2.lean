/-! ===== the tape read ===== -/
def tailC (b : Nat → Nat) (L w g e : Nat) : Bool × Nat × Nat × Nat :=
  if byt b L e = 32 then (if 50 ≤ byt b L (e + 1) ∧ byt b L (e + 1) ≤ 52 then (true, e + 2, 100 * w + g, byt b L (e + 1) - 48) else (false, e + 1, 0, 0)) else (true, e, 100 * w + g, 1)
/-- a call read at s: whether it is one; where it ends, or the fault; its number; how many times -/
def rdc (b : Nat → Nat) (L s : Nat) : Bool × Nat × Nat × Nat := match figN b s (wE b L s) with
  | some g => tailC b L 0 g (wE b L s)
  | none => match whoN b s (wE b L s) with
    | none => (false, s, 0, 0)
    | some w => if byt b L (wE b L s) = 32 then (match figN b (wE b L s + 1) (wE b L (wE b L s + 1)) with
      | some g => tailC b L w g (wE b L (wE b L s + 1))
      | none => (false, wE b L s + 1, 0, 0)) else (false, wE b L s, 0, 0)
def rcR (x : Bool × Nat × Nat × Nat) : Int32 := match x.1 with
  | true => nI x.2.1
  | false => -1 - nI x.2.1
theorem wE_ge {b : Nat → Nat} {L s : Nat} (h : s ≤ L) : s ≤ wE b L s ∧ wE b L s ≤ L := by
  have := wen_ge b (L - s) s
  unfold wE
  omega
theorem figN_at {b : Nat → Nat} {s e g : Nat} (h : figN b s e = some g) : g < 12 ∧ s + 3 ≤ e := by
  obtain ⟨h1, h2, h3⟩ := fnd_some h
  refine ⟨by omega, ?_⟩
  unfold iw at h1
  rw [Bool.and_eq_true, decide_eq_true_eq] at h1
  have := zs_len (9 + g) (by omega)
  omega
theorem whoN_at {b : Nat → Nat} {s e g : Nat} (h : whoN b s e = some g) : g < 9 ∧ s + 3 ≤ e := by
  obtain ⟨h1, h2, h3⟩ := fnd_some h
  refine ⟨by omega, ?_⟩
  unfold iw at h1
  rw [Bool.and_eq_true, decide_eq_true_eq] at h1
  have := zs_len g (by omega)
  omega
theorem byt_in {b : Nat → Nat} {L j : Nat} (h : ¬ byt b L j = 0) : j < L := by
  unfold byt at h
  split at h
  · assumption
  · exact absurd rfl h
theorem tailC_at {b : Nat → Nat} {L w g e : Nat} (he : e ≤ L) (h : (tailC b L w g e).1 = true) : e ≤ (tailC b L w g e).2.1 ∧ (tailC b L w g e).2.1 ≤ L ∧ (tailC b L w g e).2.2.1 = 100 * w + g ∧ (tailC b L w g e).2.2.2 ≤ (tailC b L w g e).2.1 - e + 2 ∧ 1 ≤ (tailC b L w g e).2.2.2 ∧ (tailC b L w g e).2.2.2 ≤ 4 := by
  unfold tailC at h ⊢
  split
  · rename_i q
    rw [if_pos q] at h
    split
    · rename_i q2
      have := byt_in (b := b) (L := L) (j := e + 1) (by omega)
      dsimp only
      omega
    · rename_i q2
      rw [if_neg q2] at h
      cases h
  · dsimp only
    omega
theorem rdc_at {b : Nat → Nat} {L s : Nat} (hs : s ≤ L) (h : (rdc b L s).1 = true) : s + 1 ≤ (rdc b L s).2.1 ∧ (rdc b L s).2.1 ≤ L ∧ s + (rdc b L s).2.2.2 ≤ (rdc b L s).2.1 ∧ 1 ≤ (rdc b L s).2.2.2 ∧ ∃ w g, w < 9 ∧ g < 12 ∧ (rdc b L s).2.2.1 = 100 * w + g := by
  have h1 := wE_ge (b := b) hs
  unfold rdc at h ⊢
  split
  · rename_i g hg
    rw [hg] at h
    obtain ⟨g1, g2⟩ := figN_at hg
    obtain ⟨a1, a2, a3, a4, a5, a6⟩ := tailC_at h1.2 h
    exact ⟨by omega, a2, by omega, a5, 0, g, by decide, g1, a3⟩
  · rename_i hg
    rw [hg] at h
    dsimp only at h
    split
    · rename_i hw
      rw [hw] at h
      cases h
    · rename_i w hw
      rw [hw] at h
      dsimp only at h
      split
      · rename_i hb
        rw [if_pos hb] at h
        have hlt := byt_in (b := b) (L := L) (j := wE b L s) (by omega)
        have h2 := wE_ge (b := b) (L := L) (s := wE b L s + 1) (by omega)
        split
        · rename_i g hg2
          rw [hg2] at h
          obtain ⟨g1, g2⟩ := figN_at hg2
          obtain ⟨a1, a2, a3, a4, a5, a6⟩ := tailC_at h2.2 h
          exact ⟨by omega, a2, by omega, a5, w, g, (whoN_at hw).1, g1, a3⟩
        · rename_i hg2
          rw [hg2] at h
          cases h
      · rename_i hb
        rw [if_neg hb] at h
        cases h
/-- the text read from s on, with the calls l already: its fault, and the calls -/
def rtx (b : Nat → Nat) (L : Nat) : Nat → Nat → List Nat → Option Nat × List Nat
  | 0, s, l => (some s, l)
  | n + 1, s, l => match (rdc b L s).1 with
    | false => (some (rdc b L s).2.1, l)
    | true => if (rdc b L s).2.1 = L then (none, l ++ List.replicate (rdc b L s).2.2.2 (rdc b L s).2.2.1) else if byt b L (rdc b L s).2.1 = 44 then rtx b L n ((rdc b L s).2.1 + 1) (l ++ List.replicate (rdc b L s).2.2.2 (rdc b L s).2.2.1) else (some (rdc b L s).2.1, l ++ List.replicate (rdc b L s).2.2.2 (rdc b L s).2.2.1)
theorem neg_neg1 (x : Int32) : -1 - (-1 - x) = x := by
  grind
section T2
variable {tb : Nat → Int32} {tl : Int32} {tc : Nat → Int32} {tn : Int32} {fc ff fs ft fu fw : Nat → Int32} {fy fd : Int32} {dc : Nat → Int32} {dp dq : Nat → Int64} {dn dm : Int32} {ec : Nat → Int32} {ep eq : Nat → Int64} {en em ik : Int32} {lr : Nat → Int32} {ln ly : Int32} {wh : Int64} {wr : Nat → Int64} {wf wb : Nat → Int32} {wn : Int32} {gz : G8} {wc : Nat → Int32} {ws : Int64} {wa pw pf pl : Int32} {ta : Nat → Int32}
variable {R : List AE} {b : Nat → Nat} {L : Nat}
theorem s_readCall {s : Nat} {l : List Nat} (hB : By tb L b) (hs : s ≤ L) (hl : l.length ≤ s) : Sem mX5_readCall 7 0 0 [.ref 1, .int (nI s)] (cW tb (nI L) (putL tc l) (nI l.length) fc ff fs ft fu fw fy fd dc dp dq dn dm ec ep eq en em ik lr ln ly wh wr wf wb wn gz wc ws wa pw pf pl ta, R) (some (.int (rcR (rdc b L s)))) (cW tb (nI L) (putL tc (l ++ List.replicate (rdc b L s).2.2.2 (rdc b L s).2.2.1)) (nI (l.length + (rdc b L s).2.2.2)) fc ff fs ft fu fw fy fd dc dp dq dn dm ec ep eq en em ik lr ln ly wh wr wf wb wn gz wc ws wa pw pf pl ta, R) := by
  refine sem_of (by decide) (Nat.le_of_ble_eq_true rfl) rfl ?_
  have h120 := hB.1
  have h1 := wE_ge (b := b) hs
  generalize hw0 : (cW tb (nI L) (putL tc l) (nI l.length) fc ff fs ft fu fw fy fd dc dp dq dn dm ec ep eq en em ik lr ln ly wh wr wf wb wn gz wc ws wa pw pf pl ta, R) = w0
  have T : ∀ (w g e s2 : Nat), w < 9 → g < 12 → e ≤ L → l.length + 3 ≤ e → Rn mX5_readCall 7 0 0 w0 (some (.int (rcR (tailC b L w g e)))) (cW tb (nI L) (putL tc (l ++ List.replicate (tailC b L w g e).2.2.2 (tailC b L w g e).2.2.1)) (nI (l.length + (tailC b L w g e).2.2.2)) fc ff fs ft fu fw fy fd dc dp dq dn dm ec ep eq en em ik lr ln ly wh wr wf wb wn gz wc ws wa pw pf pl ta, R) 0 0 87 [some (.ref 1), some (.int (nI s)), some (.int (nI w)), some (.int (nI s2)), some (.int (nI e)), some (.int (nI g)), none] [] (cW tb (nI L) (putL tc l) (nI l.length) fc ff fs ft fu fw fy fd dc dp dq dn dm ec ep eq en em ik lr ln ly wh wr wf wb wn gz wc ws wa pw pf pl ta, R) := by
    intro w g e s2 hw hg he hle
    have hb1 := byt_lt hB e
    have hb2 := byt_lt hB (e + 1)
    by_cases q1 : byt b L e = 32
    · have hel : e < L := byt_in (b := b) (by omega)
      by_cases q2 : 50 ≤ byt b L (e + 1) ∧ byt b L (e + 1) ≤ 52
      · have hel2 : e + 1 < L := byt_in (b := b) (by omega)
        have ht : tailC b L w g e = (true, e + 2, 100 * w + g, byt b L (e + 1) - 48) := by simp [tailC, q1, q2]
        rw [ht]
        refine r_iconst (v := (nI 1)) dX5_readCall_87 (by decide) ?_
        refine r_istore (ls' := [_, _, _, _, _, _, _]) dX5_readCall_88 (by decide) rfl ?_
        refine r_aload_n dX5_readCall_90 rfl ?_
        refine r_iload dX5_readCall_91 rfl ?_
        refine r_cV dX5_readCall_93 (s_byteAt hB (by omega)) lX5_33 rfl rfl rfl (by decide) ⟨Nat.le_refl _, Nat.le_refl _⟩ (Nat.le_of_ble_eq_true rfl) ?_
        refine r_pc 96 rfl ?_
        refine r_bipush (v := (nI 32)) dX5_readCall_96 (by decide) ?_
        refine r_icmp_neN 136 dX5_readCall_98 (by decide) (by omega) (by omega) (fun h98 => ?_) (fun h98 => ?_)
        · exact absurd q1 h98
        · refine r_pc 101 rfl ?_
          refine r_aload_n dX5_readCall_101 rfl ?_
          refine r_iload dX5_readCall_102 rfl ?_
          refine r_iconst (v := (nI 1)) dX5_readCall_104 (by decide) ?_
          refine r_iaddN dX5_readCall_105 ?_
          refine r_cV dX5_readCall_106 (s_byteAt hB (by omega)) lX5_33 rfl rfl rfl (by decide) ⟨Nat.le_refl _, Nat.le_refl _⟩ (Nat.le_of_ble_eq_true rfl) ?_
          refine r_pc 109 rfl ?_
          refine r_bipush (v := (nI 48)) dX5_readCall_109 (by decide) ?_
          refine r_isubN dX5_readCall_111 (by omega) ?_
          refine r_istore (ls' := [_, _, _, _, _, _, _]) dX5_readCall_112 (by decide) rfl ?_
          refine r_iload dX5_readCall_114 rfl ?_
          refine r_iconst (v := (nI 2)) dX5_readCall_116 (by decide) ?_
          refine r_pc 117 rfl ?_
          refine r_icmp_ltN 126 dX5_readCall_117 (by decide) (by omega) (by omega) (fun h117 => ?_) (fun h117 => ?_)
          · exact absurd h117 (by omega)
          · refine r_pc 120 rfl ?_
            refine r_iload dX5_readCall_120 rfl ?_
            refine r_iconst (v := (nI 4)) dX5_readCall_122 (by decide) ?_
            refine r_icmp_leN 133 dX5_readCall_123 (by decide) (by omega) (by omega) (fun h123 => ?_) (fun h123 => ?_)
            · refine r_pc 133 rfl ?_
              refine r_iinc (ls' := [_, _, _, _, _, _, _]) dX5_readCall_133 (by decide) rfl (nI_add e 2) rfl ?_
              refine r_aload_n dX5_readCall_136 rfl ?_
              refine r_bipush (v := (nI 100)) dX5_readCall_137 (by decide) ?_
              refine r_iload_n dX5_readCall_139 rfl ?_
              refine r_imulN dX5_readCall_140 ?_
              refine r_pc 141 rfl ?_
              refine r_iload dX5_readCall_141 rfl ?_
              refine r_iaddN dX5_readCall_143 ?_
              refine r_iload dX5_readCall_144 rfl ?_
              refine r_cVv dX5_readCall_146 (s_addCalls (by omega)) lX5_46 rfl rfl rfl (by decide) ⟨Nat.le_refl _, Nat.le_refl _⟩ (Nat.le_of_ble_eq_true rfl) ?_
              refine r_iload dX5_readCall_149 rfl ?_
              refine r_pc 151 rfl ?_
              exact r_iret dX5_readCall_151 rfl rfl rfl
            · exact absurd h123 (by omega)
      · have ht : tailC b L w g e = (false, e + 1, 0, 0) := by simp [tailC, q1, q2]
        rw [ht]
        dsimp only
        rw [List.replicate_zero, List.append_nil, Nat.add_zero]
        by_cases q3 : 48 ≤ byt b L (e + 1)
        · refine r_iconst (v := (nI 1)) dX5_readCall_87 (by decide) ?_
          refine r_istore (ls' := [_, _, _, _, _, _, _]) dX5_readCall_88 (by decide) rfl ?_
          refine r_aload_n dX5_readCall_90 rfl ?_
          refine r_iload dX5_readCall_91 rfl ?_
          refine r_cV dX5_readCall_93 (s_byteAt hB (by omega)) lX5_33 rfl rfl rfl (by decide) ⟨Nat.le_refl _, Nat.le_refl _⟩ (Nat.le_of_ble_eq_true rfl) ?_
          refine r_pc 96 rfl ?_
          refine r_bipush (v := (nI 32)) dX5_readCall_96 (by decide) ?_
          refine r_icmp_neN 136 dX5_readCall_98 (by decide) (by omega) (by omega) (fun h98 => ?_) (fun h98 => ?_)
          · exact absurd q1 h98
          · refine r_pc 101 rfl ?_
            refine r_aload_n dX5_readCall_101 rfl ?_
            refine r_iload dX5_readCall_102 rfl ?_
            refine r_iconst (v := (nI 1)) dX5_readCall_104 (by decide) ?_
            refine r_iaddN dX5_readCall_105 ?_
            refine r_cV dX5_readCall_106 (s_byteAt hB (by omega)) lX5_33 rfl rfl rfl (by decide) ⟨Nat.le_refl _, Nat.le_refl _⟩ (Nat.le_of_ble_eq_true rfl) ?_
            refine r_pc 109 rfl ?_
            refine r_bipush (v := (nI 48)) dX5_readCall_109 (by decide) ?_
            refine r_isubN dX5_readCall_111 (by omega) ?_
            refine r_istore (ls' := [_, _, _, _, _, _, _]) dX5_readCall_112 (by decide) rfl ?_
            refine r_iload dX5_readCall_114 rfl ?_
            refine r_iconst (v := (nI 2)) dX5_readCall_116 (by decide) ?_
            refine r_pc 117 rfl ?_
            refine r_icmp_ltN 126 dX5_readCall_117 (by decide) (by omega) (by omega) (fun h117 => ?_) (fun h117 => ?_)
            · refine r_pc 126 rfl ?_
              refine r_iconst (v := (-1)) dX5_readCall_126 (by decide) ?_
              refine r_iload dX5_readCall_127 rfl ?_
              refine r_iconst (v := (nI 1)) dX5_readCall_129 (by decide) ?_
              refine r_iaddN dX5_readCall_130 ?_
              refine r_isub dX5_readCall_131 ?_
              refine r_pc 132 rfl ?_
              exact r_iret dX5_readCall_132 rfl rfl rfl
            · refine r_pc 120 rfl ?_
              refine r_iload dX5_readCall_120 rfl ?_
              refine r_iconst (v := (nI 4)) dX5_readCall_122 (by decide) ?_
              refine r_icmp_leN 133 dX5_readCall_123 (by decide) (by omega) (by omega) (fun h123 => ?_) (fun h123 => ?_)
              · exact absurd (show 50 ≤ byt b L (e + 1) ∧ byt b L (e + 1) ≤ 52 by omega) q2
              · refine r_pc 126 rfl ?_
                refine r_iconst (v := (-1)) dX5_readCall_126 (by decide) ?_
                refine r_iload dX5_readCall_127 rfl ?_
                refine r_iconst (v := (nI 1)) dX5_readCall_129 (by decide) ?_
                refine r_iaddN dX5_readCall_130 ?_
                refine r_isub dX5_readCall_131 ?_
                refine r_pc 132 rfl ?_
                exact r_iret dX5_readCall_132 rfl rfl rfl
        · have hneg : nI (byt b L (e + 1)) - nI 48 < nI 2 := by
            rw [Int32.lt_iff_toInt_lt, pk_sub_toInt (by omega) (by omega), nI_toInt (by omega)]
            omega
          refine r_iconst (v := (nI 1)) dX5_readCall_87 (by decide) ?_
          refine r_istore (ls' := [_, _, _, _, _, _, _]) dX5_readCall_88 (by decide) rfl ?_
          refine r_aload_n dX5_readCall_90 rfl ?_
          refine r_iload dX5_readCall_91 rfl ?_
          refine r_cV dX5_readCall_93 (s_byteAt hB (by omega)) lX5_33 rfl rfl rfl (by decide) ⟨Nat.le_refl _, Nat.le_refl _⟩ (Nat.le_of_ble_eq_true rfl) ?_
          refine r_pc 96 rfl ?_
          refine r_bipush (v := (nI 32)) dX5_readCall_96 (by decide) ?_
          refine r_icmp_neN 136 dX5_readCall_98 (by decide) (by omega) (by omega) (fun h98 => ?_) (fun h98 => ?_)
          · exact absurd q1 h98
          · refine r_pc 101 rfl ?_
            refine r_aload_n dX5_readCall_101 rfl ?_
            refine r_iload dX5_readCall_102 rfl ?_
            refine r_iconst (v := (nI 1)) dX5_readCall_104 (by decide) ?_
            refine r_iaddN dX5_readCall_105 ?_
            refine r_cV dX5_readCall_106 (s_byteAt hB (by omega)) lX5_33 rfl rfl rfl (by decide) ⟨Nat.le_refl _, Nat.le_refl _⟩ (Nat.le_of_ble_eq_true rfl) ?_
            refine r_pc 109 rfl ?_
            refine r_bipush (v := (nI 48)) dX5_readCall_109 (by decide) ?_
            refine r_isub dX5_readCall_111 ?_
            refine r_istore (ls' := [_, _, _, _, _, _, _]) dX5_readCall_112 (by decide) rfl ?_
            refine r_iload dX5_readCall_114 rfl ?_
            refine r_iconst (v := (nI 2)) dX5_readCall_116 (by decide) ?_
            refine r_pc 117 rfl ?_
            refine r_icmp_lt 126 dX5_readCall_117 (by decide) (fun h117 => ?_) (fun h117 => ?_)
            · refine r_pc 126 rfl ?_
              refine r_iconst (v := (-1)) dX5_readCall_126 (by decide) ?_
              refine r_iload dX5_readCall_127 rfl ?_
              refine r_iconst (v := (nI 1)) dX5_readCall_129 (by decide) ?_
              refine r_iaddN dX5_readCall_130 ?_
              refine r_isub dX5_readCall_131 ?_
              refine r_pc 132 rfl ?_
              exact r_iret dX5_readCall_132 rfl rfl rfl
            · exact absurd hneg h117
    · have ht : tailC b L w g e = (true, e, 100 * w + g, 1) := by simp [tailC, q1]
      rw [ht]
      refine r_iconst (v := (nI 1)) dX5_readCall_87 (by decide) ?_
      refine r_istore (ls' := [_, _, _, _, _, _, _]) dX5_readCall_88 (by decide) rfl ?_
      refine r_aload_n dX5_readCall_90 rfl ?_
      refine r_iload dX5_readCall_91 rfl ?_
      refine r_cV dX5_readCall_93 (s_byteAt hB (by omega)) lX5_33 rfl rfl rfl (by decide) ⟨Nat.le_refl _, Nat.le_refl _⟩ (Nat.le_of_ble_eq_true rfl) ?_
      refine r_pc 96 rfl ?_
      refine r_bipush (v := (nI 32)) dX5_readCall_96 (by decide) ?_
      refine r_icmp_neN 136 dX5_readCall_98 (by decide) (by omega) (by omega) (fun h98 => ?_) (fun h98 => ?_)
      · refine r_pc 136 rfl ?_
        refine r_aload_n dX5_readCall_136 rfl ?_
        refine r_bipush (v := (nI 100)) dX5_readCall_137 (by decide) ?_
        refine r_iload_n dX5_readCall_139 rfl ?_
        refine r_imulN dX5_readCall_140 ?_
        refine r_iload dX5_readCall_141 rfl ?_
        refine r_pc 143 rfl ?_
        refine r_iaddN dX5_readCall_143 ?_
        refine r_iload dX5_readCall_144 rfl ?_
        refine r_cVv dX5_readCall_146 (s_addCalls (by omega)) lX5_46 rfl rfl rfl (by decide) ⟨Nat.le_refl _, Nat.le_refl _⟩ (Nat.le_of_ble_eq_true rfl) ?_
        refine r_iload dX5_readCall_149 rfl ?_
        exact r_iret dX5_readCall_151 rfl rfl rfl
      · exact absurd h98 q1
  subst hw0
  unfold rdc
  cases hf : figN b s (wE b L s) with
  | some g =>
    obtain ⟨g1, g2⟩ := figN_at hf
    refine r_iconst (v := (nI 0)) dX5_readCall_0 (by decide) ?_
    refine r_istore_n (ls' := [_, _, _, _, _, _, _]) dX5_readCall_1 (by decide) rfl ?_
    refine r_iload_n dX5_readCall_2 rfl ?_
    refine r_istore_n (ls' := [_, _, _, _, _, _, _]) dX5_readCall_3 (by decide) rfl ?_
    refine r_aload_n dX5_readCall_4 rfl ?_
    refine r_pc 5 rfl ?_
    refine r_iload_n dX5_readCall_5 rfl ?_
    refine r_cV dX5_readCall_6 (s_wordEnd hB hs) lX5_36 rfl rfl rfl (by decide) ⟨Nat.le_refl _, Nat.le_refl _⟩ (Nat.le_of_ble_eq_true rfl) ?_
    refine r_istore (ls' := [_, _, _, _, _, _, _]) dX5_readCall_9 (by decide) rfl ?_
    refine r_aload_n dX5_readCall_11 rfl ?_
    refine r_iload_n dX5_readCall_12 rfl ?_
    refine r_pc 13 rfl ?_
    refine r_iload dX5_readCall_13 rfl ?_
    refine r_cV dX5_readCall_15 (s_figureIn hB h1.1 h1.2) lX5_39 rfl rfl rfl (by decide) ⟨Nat.le_refl _, Nat.le_refl _⟩ (Nat.le_of_ble_eq_true rfl) ?_
    rw [hf]
    refine r_istore (ls' := [_, _, _, _, _, _, _]) dX5_readCall_18 (by decide) rfl ?_
    refine r_iload dX5_readCall_20 rfl ?_
    refine r_if_ge 87 dX5_readCall_22 (by decide) (fun h22 => ?_) (fun h22 => ?_)
    · refine r_pc 87 rfl ?_
      refine r_pc 87 rfl ?_
      exact T 0 g _ s (by decide) g1 h1.2 (by omega)
    · exact absurd (nI_pos' (by omega)) h22
  | none =>
    dsimp only
    cases hw : whoN b s (wE b L s) with
    | none =>
      dsimp only
      rw [List.replicate_zero, List.append_nil, Nat.add_zero]
      refine r_iconst (v := (nI 0)) dX5_readCall_0 (by decide) ?_
      refine r_istore_n (ls' := [_, _, _, _, _, _, _]) dX5_readCall_1 (by decide) rfl ?_
      refine r_iload_n dX5_readCall_2 rfl ?_
      refine r_istore_n (ls' := [_, _, _, _, _, _, _]) dX5_readCall_3 (by decide) rfl ?_
      refine r_aload_n dX5_readCall_4 rfl ?_
      refine r_pc 5 rfl ?_
      refine r_iload_n dX5_readCall_5 rfl ?_
      refine r_cV dX5_readCall_6 (s_wordEnd hB hs) lX5_36 rfl rfl rfl (by decide) ⟨Nat.le_refl _, Nat.le_refl _⟩ (Nat.le_of_ble_eq_true rfl) ?_
      refine r_istore (ls' := [_, _, _, _, _, _, _]) dX5_readCall_9 (by decide) rfl ?_
      refine r_aload_n dX5_readCall_11 rfl ?_
      refine r_iload_n dX5_readCall_12 rfl ?_
      refine r_pc 13 rfl ?_
      refine r_iload dX5_readCall_13 rfl ?_
      refine r_cV dX5_readCall_15 (s_figureIn hB h1.1 h1.2) lX5_39 rfl rfl rfl (by decide) ⟨Nat.le_refl _, Nat.le_refl _⟩ (Nat.le_of_ble_eq_true rfl) ?_
      rw [hf]
      refine r_istore (ls' := [_, _, _, _, _, _, _]) dX5_readCall_18 (by decide) rfl ?_
      refine r_iload dX5_readCall_20 rfl ?_
      refine r_if_ge 87 dX5_readCall_22 (by decide) (fun h22 => ?_) (fun h22 => ?_)
      · exact absurd h22 (by decide)
      · refine r_pc 25 rfl ?_
        refine r_aload_n dX5_readCall_25 rfl ?_
        refine r_iload_n dX5_readCall_26 rfl ?_
        refine r_iload dX5_readCall_27 rfl ?_
        refine r_cV dX5_readCall_29 (s_whoIn hB h1.1 h1.2) lX5_43 rfl rfl rfl (by decide) ⟨Nat.le_refl _, Nat.le_refl _⟩ (Nat.le_of_ble_eq_true rfl) ?_
        rw [hw]
        refine r_istore_n (ls' := [_, _, _, _, _, _, _]) dX5_readCall_32 (by decide) rfl ?_
        refine r_pc 33 rfl ?_
        refine r_iload_n dX5_readCall_33 rfl ?_
        refine r_if_ge 41 dX5_readCall_34 (by decide) (fun h34 => ?_) (fun h34 => ?_)
        · exact absurd h34 (by decide)
        · refine r_pc 37 rfl ?_
          refine r_iconst (v := (-1)) dX5_readCall_37 (by decide) ?_
          refine r_iload_n dX5_readCall_38 rfl ?_
          refine r_isub dX5_readCall_39 ?_
          exact r_iret dX5_readCall_40 rfl rfl rfl
    | some w =>
      obtain ⟨w1, w2⟩ := whoN_at hw
      have hb1 := byt_lt hB (wE b L s)
      dsimp only
      by_cases q1 : byt b L (wE b L s) = 32
      · rw [if_pos q1]
        have hel : wE b L s < L := byt_in (b := b) (by omega)
        have h2 := wE_ge (b := b) (L := L) (s := wE b L s + 1) (by omega)
        cases hf2 : figN b (wE b L s + 1) (wE b L (wE b L s + 1)) with
        | some g =>
          obtain ⟨g1, g2⟩ := figN_at hf2
          refine r_iconst (v := (nI 0)) dX5_readCall_0 (by decide) ?_
          refine r_istore_n (ls' := [_, _, _, _, _, _, _]) dX5_readCall_1 (by decide) rfl ?_
          refine r_iload_n dX5_readCall_2 rfl ?_
          refine r_istore_n (ls' := [_, _, _, _, _, _, _]) dX5_readCall_3 (by decide) rfl ?_
          refine r_aload_n dX5_readCall_4 rfl ?_
          refine r_pc 5 rfl ?_
          refine r_iload_n dX5_readCall_5 rfl ?_
          refine r_cV dX5_readCall_6 (s_wordEnd hB hs) lX5_36 rfl rfl rfl (by decide) ⟨Nat.le_refl _, Nat.le_refl _⟩ (Nat.le_of_ble_eq_true rfl) ?_
          refine r_istore (ls' := [_, _, _, _, _, _, _]) dX5_readCall_9 (by decide) rfl ?_
          refine r_aload_n dX5_readCall_11 rfl ?_
          refine r_iload_n dX5_readCall_12 rfl ?_
          refine r_pc 13 rfl ?_
          refine r_iload dX5_readCall_13 rfl ?_
          refine r_cV dX5_readCall_15 (s_figureIn hB h1.1 h1.2) lX5_39 rfl rfl rfl (by decide) ⟨Nat.le_refl _, Nat.le_refl _⟩ (Nat.le_of_ble_eq_true rfl) ?_
          rw [hf]
          refine r_istore (ls' := [_, _, _, _, _, _, _]) dX5_readCall_18 (by decide) rfl ?_
          refine r_iload dX5_readCall_20 rfl ?_
          refine r_if_ge 87 dX5_readCall_22 (by decide) (fun h22 => ?_) (fun h22 => ?_)
          · exact absurd h22 (by decide)
          · refine r_pc 25 rfl ?_
            refine r_aload_n dX5_readCall_25 rfl ?_
            refine r_iload_n dX5_readCall_26 rfl ?_
            refine r_iload dX5_readCall_27 rfl ?_
            refine r_cV dX5_readCall_29 (s_whoIn hB h1.1 h1.2) lX5_43 rfl rfl rfl (by decide) ⟨Nat.le_refl _, Nat.le_refl _⟩ (Nat.le_of_ble_eq_true rfl) ?_
            rw [hw]
            refine r_istore_n (ls' := [_, _, _, _, _, _, _]) dX5_readCall_32 (by decide) rfl ?_
            refine r_pc 33 rfl ?_
            refine r_iload_n dX5_readCall_33 rfl ?_
            refine r_if_ge 41 dX5_readCall_34 (by decide) (fun h34 => ?_) (fun h34 => ?_)
            · refine r_pc 41 rfl ?_
              refine r_aload_n dX5_readCall_41 rfl ?_
              refine r_iload dX5_readCall_42 rfl ?_
              refine r_cV dX5_readCall_44 (s_byteAt hB (by omega)) lX5_33 rfl rfl rfl (by decide) ⟨Nat.le_refl _, Nat.le_refl _⟩ (Nat.le_of_ble_eq_true rfl) ?_
              refine r_bipush (v := (nI 32)) dX5_readCall_47 (by decide) ?_
              refine r_icmp_eqN 57 dX5_readCall_49 (by decide) (by omega) (by omega) (fun h49 => ?_) (fun h49 => ?_)
              · refine r_pc 57 rfl ?_
                refine r_iload dX5_readCall_57 rfl ?_
                refine r_iconst (v := (nI 1)) dX5_readCall_59 (by decide) ?_
                refine r_iaddN dX5_readCall_60 ?_
                refine r_istore_n (ls' := [_, _, _, _, _, _, _]) dX5_readCall_61 (by decide) rfl ?_
                refine r_aload_n dX5_readCall_62 rfl ?_
                refine r_pc 63 rfl ?_
                refine r_iload_n dX5_readCall_63 rfl ?_
                refine r_cV dX5_readCall_64 (s_wordEnd hB (by omega)) lX5_36 rfl rfl rfl (by decide) ⟨Nat.le_refl _, Nat.le_refl _⟩ (Nat.le_of_ble_eq_true rfl) ?_
                refine r_istore (ls' := [_, _, _, _, _, _, _]) dX5_readCall_67 (by decide) rfl ?_
                refine r_aload_n dX5_readCall_69 rfl ?_
                refine r_iload_n dX5_readCall_70 rfl ?_
                refine r_pc 71 rfl ?_
                refine r_iload dX5_readCall_71 rfl ?_
                refine r_cV dX5_readCall_73 (s_figureIn hB h2.1 h2.2) lX5_39 rfl rfl rfl (by decide) ⟨Nat.le_refl _, Nat.le_refl _⟩ (Nat.le_of_ble_eq_true rfl) ?_
                rw [hf2]
                refine r_istore (ls' := [_, _, _, _, _, _, _]) dX5_readCall_76 (by decide) rfl ?_
                refine r_iload dX5_readCall_78 rfl ?_
                refine r_if_ge 87 dX5_readCall_80 (by decide) (fun h80 => ?_) (fun h80 => ?_)
                · refine r_pc 87 rfl ?_
                  refine r_pc 87 rfl ?_
                  exact T w g _ _ w1 g1 h2.2 (by omega)
                · exact absurd (nI_pos' (by omega)) h80
              · exact absurd q1 h49
            · exact absurd (nI_pos' (by omega)) h34
        | none =>
          dsimp only
          rw [List.replicate_zero, List.append_nil, Nat.add_zero]
          refine r_iconst (v := (nI 0)) dX5_readCall_0 (by decide) ?_
          refine r_istore_n (ls' := [_, _, _, _, _, _, _]) dX5_readCall_1 (by decide) rfl ?_
          refine r_iload_n dX5_readCall_2 rfl ?_
          refine r_istore_n (ls' := [_, _, _, _, _, _, _]) dX5_readCall_3 (by decide) rfl ?_
          refine r_aload_n dX5_readCall_4 rfl ?_
          refine r_pc 5 rfl ?_
          refine r_iload_n dX5_readCall_5 rfl ?_
          refine r_cV dX5_readCall_6 (s_wordEnd hB hs) lX5_36 rfl rfl rfl (by decide) ⟨Nat.le_refl _, Nat.le_refl _⟩ (Nat.le_of_ble_eq_true rfl) ?_
          refine r_istore (ls' := [_, _, _, _, _, _, _]) dX5_readCall_9 (by decide) rfl ?_
          refine r_aload_n dX5_readCall_11 rfl ?_
          refine r_iload_n dX5_readCall_12 rfl ?_
          refine r_pc 13 rfl ?_
          refine r_iload dX5_readCall_13 rfl ?_
          refine r_cV dX5_readCall_15 (s_figureIn hB h1.1 h1.2) lX5_39 rfl rfl rfl (by decide) ⟨Nat.le_refl _, Nat.le_refl _⟩ (Nat.le_of_ble_eq_true rfl) ?_
          rw [hf]
          refine r_istore (ls' := [_, _, _, _, _, _, _]) dX5_readCall_18 (by decide) rfl ?_
          refine r_iload dX5_readCall_20 rfl ?_
          refine r_if_ge 87 dX5_readCall_22 (by decide) (fun h22 => ?_) (fun h22 => ?_)
          · exact absurd h22 (by decide)
          · refine r_pc 25 rfl ?_
            refine r_aload_n dX5_readCall_25 rfl ?_
            refine r_iload_n dX5_readCall_26 rfl ?_
            refine r_iload dX5_readCall_27 rfl ?_
            refine r_cV dX5_readCall_29 (s_whoIn hB h1.1 h1.2) lX5_43 rfl rfl rfl (by decide) ⟨Nat.le_refl _, Nat.le_refl _⟩ (Nat.le_of_ble_eq_true rfl) ?_
            rw [hw]
            refine r_istore_n (ls' := [_, _, _, _, _, _, _]) dX5_readCall_32 (by decide) rfl ?_
            refine r_pc 33 rfl ?_
            refine r_iload_n dX5_readCall_33 rfl ?_
            refine r_if_ge 41 dX5_readCall_34 (by decide) (fun h34 => ?_) (fun h34 => ?_)
            · refine r_pc 41 rfl ?_
              refine r_aload_n dX5_readCall_41 rfl ?_
              refine r_iload dX5_readCall_42 rfl ?_
              refine r_cV dX5_readCall_44 (s_byteAt hB (by omega)) lX5_33 rfl rfl rfl (by decide) ⟨Nat.le_refl _, Nat.le_refl _⟩ (Nat.le_of_ble_eq_true rfl) ?_
              refine r_bipush (v := (nI 32)) dX5_readCall_47 (by decide) ?_
              refine r_icmp_eqN 57 dX5_readCall_49 (by decide) (by omega) (by omega) (fun h49 => ?_) (fun h49 => ?_)
              · refine r_pc 57 rfl ?_
                refine r_iload dX5_readCall_57 rfl ?_
                refine r_iconst (v := (nI 1)) dX5_readCall_59 (by decide) ?_
                refine r_iaddN dX5_readCall_60 ?_
                refine r_istore_n (ls' := [_, _, _, _, _, _, _]) dX5_readCall_61 (by decide) rfl ?_
                refine r_aload_n dX5_readCall_62 rfl ?_
                refine r_pc 63 rfl ?_
                refine r_iload_n dX5_readCall_63 rfl ?_
                refine r_cV dX5_readCall_64 (s_wordEnd hB (by omega)) lX5_36 rfl rfl rfl (by decide) ⟨Nat.le_refl _, Nat.le_refl _⟩ (Nat.le_of_ble_eq_true rfl) ?_
                refine r_istore (ls' := [_, _, _, _, _, _, _]) dX5_readCall_67 (by decide) rfl ?_
                refine r_aload_n dX5_readCall_69 rfl ?_
                refine r_iload_n dX5_readCall_70 rfl ?_
                refine r_pc 71 rfl ?_
                refine r_iload dX5_readCall_71 rfl ?_
                refine r_cV dX5_readCall_73 (s_figureIn hB h2.1 h2.2) lX5_39 rfl rfl rfl (by decide) ⟨Nat.le_refl _, Nat.le_refl _⟩ (Nat.le_of_ble_eq_true rfl) ?_
                rw [hf2]
                refine r_istore (ls' := [_, _, _, _, _, _, _]) dX5_readCall_76 (by decide) rfl ?_
                refine r_iload dX5_readCall_78 rfl ?_
                refine r_if_ge 87 dX5_readCall_80 (by decide) (fun h80 => ?_) (fun h80 => ?_)
                · exact absurd h80 (by decide)
                · refine r_pc 83 rfl ?_
                  refine r_iconst (v := (-1)) dX5_readCall_83 (by decide) ?_
                  refine r_iload_n dX5_readCall_84 rfl ?_
                  refine r_isub dX5_readCall_85 ?_
                  exact r_iret dX5_readCall_86 rfl rfl rfl
              · exact absurd q1 h49
            · exact absurd (nI_pos' (by omega)) h34
      · rw [if_neg q1]
        dsimp only
        rw [List.replicate_zero, List.append_nil, Nat.add_zero]
        refine r_iconst (v := (nI 0)) dX5_readCall_0 (by decide) ?_
        refine r_istore_n (ls' := [_, _, _, _, _, _, _]) dX5_readCall_1 (by decide) rfl ?_
        refine r_iload_n dX5_readCall_2 rfl ?_
        refine r_istore_n (ls' := [_, _, _, _, _, _, _]) dX5_readCall_3 (by decide) rfl ?_
        refine r_aload_n dX5_readCall_4 rfl ?_
        refine r_pc 5 rfl ?_
        refine r_iload_n dX5_readCall_5 rfl ?_
        refine r_cV dX5_readCall_6 (s_wordEnd hB hs) lX5_36 rfl rfl rfl (by decide) ⟨Nat.le_refl _, Nat.le_refl _⟩ (Nat.le_of_ble_eq_true rfl) ?_
        refine r_istore (ls' := [_, _, _, _, _, _, _]) dX5_readCall_9 (by decide) rfl ?_
        refine r_aload_n dX5_readCall_11 rfl ?_
        refine r_iload_n dX5_readCall_12 rfl ?_
        refine r_pc 13 rfl ?_
        refine r_iload dX5_readCall_13 rfl ?_
        refine r_cV dX5_readCall_15 (s_figureIn hB h1.1 h1.2) lX5_39 rfl rfl rfl (by decide) ⟨Nat.le_refl _, Nat.le_refl _⟩ (Nat.le_of_ble_eq_true rfl) ?_
        rw [hf]
        refine r_istore (ls' := [_, _, _, _, _, _, _]) dX5_readCall_18 (by decide) rfl ?_
        refine r_iload dX5_readCall_20 rfl ?_
        refine r_if_ge 87 dX5_readCall_22 (by decide) (fun h22 => ?_) (fun h22 => ?_)
        · exact absurd h22 (by decide)
        · refine r_pc 25 rfl ?_
          refine r_aload_n dX5_readCall_25 rfl ?_
          refine r_iload_n dX5_readCall_26 rfl ?_
          refine r_iload dX5_readCall_27 rfl ?_
          refine r_cV dX5_readCall_29 (s_whoIn hB h1.1 h1.2) lX5_43 rfl rfl rfl (by decide) ⟨Nat.le_refl _, Nat.le_refl _⟩ (Nat.le_of_ble_eq_true rfl) ?_
          rw [hw]
          refine r_istore_n (ls' := [_, _, _, _, _, _, _]) dX5_readCall_32 (by decide) rfl ?_
          refine r_pc 33 rfl ?_
          refine r_iload_n dX5_readCall_33 rfl ?_
          refine r_if_ge 41 dX5_readCall_34 (by decide) (fun h34 => ?_) (fun h34 => ?_)
          · refine r_pc 41 rfl ?_
            refine r_aload_n dX5_readCall_41 rfl ?_
            refine r_iload dX5_readCall_42 rfl ?_
            refine r_cV dX5_readCall_44 (s_byteAt hB (by omega)) lX5_33 rfl rfl rfl (by decide) ⟨Nat.le_refl _, Nat.le_refl _⟩ (Nat.le_of_ble_eq_true rfl) ?_
            refine r_bipush (v := (nI 32)) dX5_readCall_47 (by decide) ?_
            refine r_icmp_eqN 57 dX5_readCall_49 (by decide) (by omega) (by omega) (fun h49 => ?_) (fun h49 => ?_)
            · exact absurd h49 q1
            · refine r_pc 52 rfl ?_
              refine r_iconst (v := (-1)) dX5_readCall_52 (by decide) ?_
              refine r_iload dX5_readCall_53 rfl ?_
              refine r_isub dX5_readCall_55 ?_
              exact r_iret dX5_readCall_56 rfl rfl rfl
          · exact absurd (nI_pos' (by omega)) h34
theorem s_readText (hB : By tb L b) : Sem mX5_readText 8 0 0 [.ref 1] (cW tb (nI L) (putL tc []) (nI 0) fc ff fs ft fu fw fy fd dc dp dq dn dm ec ep eq en em ik lr ln ly wh wr wf wb wn gz wc ws wa pw pf pl ta, R) (some (.int (stI (rtx b L 121 0 []).1))) (cW tb (nI L) (putL tc (rtx b L 121 0 []).2) (nI (rtx b L 121 0 []).2.length) fc ff fs ft fu fw fy fd dc dp dq dn dm ec ep eq en em ik lr ln ly wh wr wf wb wn gz wc ws wa pw pf pl ta, R) := by
  refine sem_of (by decide) (Nat.le_of_ble_eq_true rfl) rfl ?_
  have h120 := hB.1
  generalize hw0 : (cW tb (nI L) (putL tc []) (nI 0) fc ff fs ft fu fw fy fd dc dp dq dn dm ec ep eq en em ik lr ln ly wh wr wf wb wn gz wc ws wa pw pf pl ta, R) = w0
  have Lp : ∀ (m k s : Nat) (l : List Nat) (y3 : Option Value), k + m = 121 → s ≤ L → l.length ≤ s → Rn mX5_readText 8 0 0 w0 (some (.int (stI (rtx b L m s l).1))) (cW tb (nI L) (putL tc (rtx b L m s l).2) (nI (rtx b L m s l).2.length) fc ff fs ft fu fw fy fd dc dp dq dn dm ec ep eq en em ik lr ln ly wh wr wf wb wn gz wc ws wa pw pf pl ta, R) 0 0 4 [some (.ref 1), some (.int (nI s)), some (.int (nI k)), y3] [] (cW tb (nI L) (putL tc l) (nI l.length) fc ff fs ft fu fw fy fd dc dp dq dn dm ec ep eq en em ik lr ln ly wh wr wf wb wn gz wc ws wa pw pf pl ta, R) := by
    intro m
    induction m with
    | zero =>
      intro k s l y3 hk hs hl
      refine r_iload_n dX5_readText_4 rfl ?_
      refine r_bipush (v := (nI 120)) dX5_readText_5 (by decide) ?_
      refine r_icmp_gtN 56 dX5_readText_7 (by decide) (by omega) (by omega) (fun h7 => ?_) (fun h7 => ?_)
      · refine r_pc 56 rfl ?_
        refine r_iload_n dX5_readText_56 rfl ?_
        exact r_iret dX5_readText_57 rfl rfl rfl
      · exact absurd h7 (by omega)
    | succ m ih =>
      intro k s l y3 hk hs hl
      unfold rtx
      have len : ∀ (t x : Nat), (l ++ List.replicate t x).length = l.length + t := fun t x => by simp
      cases hx : (rdc b L s).1 with
      | false =>
        have hz : (rdc b L s).2.2.2 = 0 ∧ (rdc b L s).2.1 ≤ L + 1 := by
          have h1 := wE_ge (b := b) hs
          unfold rdc at hx ⊢
          have tl : ∀ w g e, e ≤ L → (tailC b L w g e).1 = false → (tailC b L w g e).2.2.2 = 0 ∧ (tailC b L w g e).2.1 ≤ L + 1 := by
            intro w g e he h
            unfold tailC at h ⊢
            split
            · rename_i q
              rw [if_pos q] at h
              split
              · rename_i q2; rw [if_pos q2] at h; cases h
              · exact ⟨rfl, by dsimp only; omega⟩
            · rename_i q; rw [if_neg q] at h; cases h
          split
          · rename_i g hg
            rw [hg] at hx
            exact tl _ _ _ h1.2 hx
          · rename_i hg
            rw [hg] at hx
            dsimp only at hx
            split
            · exact ⟨rfl, by dsimp only; omega⟩
            · rename_i w hw
              rw [hw] at hx
              dsimp only at hx
              split
              · rename_i hb
                rw [if_pos hb] at hx
                have hlt := byt_in (b := b) (L := L) (j := wE b L s) (by omega)
                have h2 := wE_ge (b := b) (L := L) (s := wE b L s + 1) (by omega)
                split
                · rename_i g hg2
                  rw [hg2] at hx
                  exact tl _ _ _ h2.2 hx
                · exact ⟨rfl, by dsimp only; omega⟩
              · exact ⟨rfl, by dsimp only; omega⟩
        have hr : rcR (rdc b L s) = -1 - nI (rdc b L s).2.1 := by rw [rcR, hx]
        have hneg : ¬ (0 : Int32) ≤ -1 - nI (rdc b L s).2.1 := by
          rw [Int32.le_iff_toInt_le]
          have h1 : ((-1 : Int32) - nI (rdc b L s).2.1).toInt = -1 - ((rdc b L s).2.1 : Int) := by
            have h2 := hz.2
            rw [Int32.toInt_sub, nI_toInt (by omega)]
            have : ((-1 : Int32)).toInt = -1 := by decide
            rw [this, Int.bmod_eq_of_le] <;> omega
          rw [h1]
          have : ((0 : Int32)).toInt = 0 := by decide
          rw [this]
          omega
        have hc := s_readCall (tb := tb) (tc := tc) (fc := fc) (ff := ff) (fs := fs) (ft := ft) (fu := fu) (fw := fw) (fy := fy) (fd := fd) (dc := dc) (dp := dp) (dq := dq) (dn := dn) (dm := dm) (ec := ec) (ep := ep) (eq := eq) (en := en) (em := em) (ik := ik) (lr := lr) (ln := ln) (ly := ly) (wh := wh) (wr := wr) (wf := wf) (wb := wb) (wn := wn) (gz := gz) (wc := wc) (ws := ws) (wa := wa) (pw := pw) (pf := pf) (pl := pl) (ta := ta) (R := R) hB hs hl
        rw [hr, hz.1, List.replicate_zero, List.append_nil, Nat.add_zero] at hc
        refine r_iload_n dX5_readText_4 rfl ?_
        refine r_bipush (v := (nI 120)) dX5_readText_5 (by decide) ?_
        refine r_icmp_gtN 56 dX5_readText_7 (by decide) (by omega) (by omega) (fun h7 => ?_) (fun h7 => ?_)
        · exact absurd h7 (by omega)
        · refine r_pc 10 rfl ?_
          refine r_aload_n dX5_readText_10 rfl ?_
          refine r_iload_n dX5_readText_11 rfl ?_
          refine r_cV dX5_readText_12 hc lX5_29 rfl rfl rfl (by decide) ⟨Nat.le_refl _, Nat.le_refl _⟩ (Nat.le_of_ble_eq_true rfl) ?_
          refine r_istore_n (ls' := [_, _, _, _]) dX5_readText_15 (by decide) rfl ?_
          refine r_iload_n dX5_readText_16 rfl ?_
          refine r_pc 17 rfl ?_
          refine r_if_ge 24 dX5_readText_17 (by decide) (fun h17 => ?_) (fun h17 => ?_)
          · exact absurd h17 hneg
          · refine r_pc 20 rfl ?_
            refine r_iconst (v := (-1)) dX5_readText_20 (by decide) ?_
            refine r_iload_n dX5_readText_21 rfl ?_
            refine r_isub dX5_readText_22 ?_
            refine r_topi _ (neg_neg1 _) ?_
            exact r_iret dX5_readText_23 rfl rfl rfl
      | true =>
        obtain ⟨a1, a2, a3, a4, -⟩ := rdc_at hs hx
        have hr : rcR (rdc b L s) = nI (rdc b L s).2.1 := by rw [rcR, hx]
        have hc := s_readCall (tb := tb) (tc := tc) (fc := fc) (ff := ff) (fs := fs) (ft := ft) (fu := fu) (fw := fw) (fy := fy) (fd := fd) (dc := dc) (dp := dp) (dq := dq) (dn := dn) (dm := dm) (ec := ec) (ep := ep) (eq := eq) (en := en) (em := em) (ik := ik) (lr := lr) (ln := ln) (ly := ly) (wh := wh) (wr := wr) (wf := wf) (wb := wb) (wn := wn) (gz := gz) (wc := wc) (ws := ws) (wa := wa) (pw := pw) (pf := pf) (pl := pl) (ta := ta) (R := R) hB hs hl
        rw [hr, ← len _ (rdc b L s).2.2.1] at hc
        have hb1 := byt_lt hB (rdc b L s).2.1
        dsimp only
        by_cases q1 : (rdc b L s).2.1 = L
        · rw [if_pos q1]
          refine r_iload_n dX5_readText_4 rfl ?_
          refine r_bipush (v := (nI 120)) dX5_readText_5 (by decide) ?_
          refine r_icmp_gtN 56 dX5_readText_7 (by decide) (by omega) (by omega) (fun h7 => ?_) (fun h7 => ?_)
          · exact absurd h7 (by omega)
          · refine r_pc 10 rfl ?_
            refine r_aload_n dX5_readText_10 rfl ?_
            refine r_iload_n dX5_readText_11 rfl ?_
            refine r_cV dX5_readText_12 hc lX5_29 rfl rfl rfl (by decide) ⟨Nat.le_refl _, Nat.le_refl _⟩ (Nat.le_of_ble_eq_true rfl) ?_
            refine r_istore_n (ls' := [_, _, _, _]) dX5_readText_15 (by decide) rfl ?_
            refine r_iload_n dX5_readText_16 rfl ?_
            refine r_pc 17 rfl ?_
            refine r_if_ge 24 dX5_readText_17 (by decide) (fun h17 => ?_) (fun h17 => ?_)
            · refine r_pc 24 rfl ?_
              refine r_iload_n dX5_readText_24 rfl ?_
              refine r_aload_n dX5_readText_25 rfl ?_
              refine r_get dX5_readText_26 fX5_15 rfl rfl ?_
              refine r_icmp_neN 34 dX5_readText_29 (by decide) (by omega) (by omega) (fun h29 => ?_) (fun h29 => ?_)
              · exact absurd q1 h29
              · refine r_pc 32 rfl ?_
                refine r_iconst (v := (-1)) dX5_readText_32 (by decide) ?_
                exact r_iret dX5_readText_33 rfl rfl rfl
            · exact absurd (nI_pos' (by omega)) h17
        · rw [if_neg q1]
          by_cases q2 : byt b L (rdc b L s).2.1 = 44
          · rw [if_pos q2]
            refine r_iload_n dX5_readText_4 rfl ?_
            refine r_bipush (v := (nI 120)) dX5_readText_5 (by decide) ?_
            refine r_icmp_gtN 56 dX5_readText_7 (by decide) (by omega) (by omega) (fun h7 => ?_) (fun h7 => ?_)
            · exact absurd h7 (by omega)
            · refine r_pc 10 rfl ?_
              refine r_aload_n dX5_readText_10 rfl ?_
              refine r_iload_n dX5_readText_11 rfl ?_
              refine r_cV dX5_readText_12 hc lX5_29 rfl rfl rfl (by decide) ⟨Nat.le_refl _, Nat.le_refl _⟩ (Nat.le_of_ble_eq_true rfl) ?_
              refine r_istore_n (ls' := [_, _, _, _]) dX5_readText_15 (by decide) rfl ?_
              refine r_iload_n dX5_readText_16 rfl ?_
              refine r_pc 17 rfl ?_
              refine r_if_ge 24 dX5_readText_17 (by decide) (fun h17 => ?_) (fun h17 => ?_)
              · refine r_pc 24 rfl ?_
                refine r_iload_n dX5_readText_24 rfl ?_
                refine r_aload_n dX5_readText_25 rfl ?_
                refine r_get dX5_readText_26 fX5_15 rfl rfl ?_
                refine r_icmp_neN 34 dX5_readText_29 (by decide) (by omega) (by omega) (fun h29 => ?_) (fun h29 => ?_)
                · refine r_pc 34 rfl ?_
                  refine r_aload_n dX5_readText_34 rfl ?_
                  refine r_iload_n dX5_readText_35 rfl ?_
                  refine r_cV dX5_readText_36 (s_byteAt hB (by omega)) lX5_33 rfl rfl rfl (by decide) ⟨Nat.le_refl _, Nat.le_refl _⟩ (Nat.le_of_ble_eq_true rfl) ?_
                  refine r_bipush (v := (nI 44)) dX5_readText_39 (by decide) ?_
                  refine r_icmp_eqN 46 dX5_readText_41 (by decide) (by omega) (by omega) (fun h41 => ?_) (fun h41 => ?_)
                  · refine r_pc 46 rfl ?_
                    refine r_iload_n dX5_readText_46 rfl ?_
                    refine r_iconst (v := (nI 1)) dX5_readText_47 (by decide) ?_
                    refine r_iaddN dX5_readText_48 ?_
                    refine r_istore_n (ls' := [_, _, _, _]) dX5_readText_49 (by decide) rfl ?_
                    refine r_inc1 (ls' := [_, _, _, _]) dX5_readText_50 (by decide) rfl rfl ?_
                    refine r_pc 53 rfl ?_
                    refine r_goto 4 dX5_readText_53 (by decide) ?_
                    refine r_pc 4 rfl ?_
                    exact ih (k + 1) _ _ _ (by omega) (by omega) (by rw [len]; omega)
                  · exact absurd q2 h41
                · exact absurd h29 q1
              · exact absurd (nI_pos' (by omega)) h17
          · rw [if_neg q2]
            refine r_iload_n dX5_readText_4 rfl ?_
            refine r_bipush (v := (nI 120)) dX5_readText_5 (by decide) ?_
            refine r_icmp_gtN 56 dX5_readText_7 (by decide) (by omega) (by omega) (fun h7 => ?_) (fun h7 => ?_)
            · exact absurd h7 (by omega)
            · refine r_pc 10 rfl ?_
              refine r_aload_n dX5_readText_10 rfl ?_
              refine r_iload_n dX5_readText_11 rfl ?_
              refine r_cV dX5_readText_12 hc lX5_29 rfl rfl rfl (by decide) ⟨Nat.le_refl _, Nat.le_refl _⟩ (Nat.le_of_ble_eq_true rfl) ?_
              refine r_istore_n (ls' := [_, _, _, _]) dX5_readText_15 (by decide) rfl ?_
              refine r_iload_n dX5_readText_16 rfl ?_
              refine r_pc 17 rfl ?_
              refine r_if_ge 24 dX5_readText_17 (by decide) (fun h17 => ?_) (fun h17 => ?_)
              · refine r_pc 24 rfl ?_
                refine r_iload_n dX5_readText_24 rfl ?_
                refine r_aload_n dX5_readText_25 rfl ?_
                refine r_get dX5_readText_26 fX5_15 rfl rfl ?_
                refine r_icmp_neN 34 dX5_readText_29 (by decide) (by omega) (by omega) (fun h29 => ?_) (fun h29 => ?_)
                · refine r_pc 34 rfl ?_
                  refine r_aload_n dX5_readText_34 rfl ?_
                  refine r_iload_n dX5_readText_35 rfl ?_
                  refine r_cV dX5_readText_36 (s_byteAt hB (by omega)) lX5_33 rfl rfl rfl (by decide) ⟨Nat.le_refl _, Nat.le_refl _⟩ (Nat.le_of_ble_eq_true rfl) ?_
                  refine r_bipush (v := (nI 44)) dX5_readText_39 (by decide) ?_
                  refine r_icmp_eqN 46 dX5_readText_41 (by decide) (by omega) (by omega) (fun h41 => ?_) (fun h41 => ?_)
                  · exact absurd h41 q2
                  · refine r_pc 44 rfl ?_
                    refine r_iload_n dX5_readText_44 rfl ?_
                    exact r_iret dX5_readText_45 rfl rfl rfl
                · exact absurd h29 q1
              · exact absurd (nI_pos' (by omega)) h17
  subst hw0
  refine r_iconst (v := (nI 0)) dX5_readText_0 (by decide) ?_
  refine r_istore_n (ls' := [_, _, _, _]) dX5_readText_1 (by decide) rfl ?_
  refine r_iconst (v := (nI 0)) dX5_readText_2 (by decide) ?_
  refine r_istore_n (ls' := [_, _, _, _]) dX5_readText_3 (by decide) rfl ?_
  refine r_pc 4 rfl ?_
  exact Lp 121 0 0 [] _ (by omega) (Nat.zero_le _) (Nat.le_refl _)
theorem s_take (hB : By tb L b) : Sem mX5_take 9 0 0 [.ref 1] (cW tb (nI L) tc tn fc ff fs ft fu fw fy fd dc dp dq dn dm ec ep eq en em ik lr ln ly wh wr wf wb wn gz wc ws wa pw pf pl ta, R) (some (.int (stI (rtx b L 121 0 []).1))) (cW tb (nI 0) (putL tc (rtx b L 121 0 []).2) (nI (rtx b L 121 0 []).2.length) fc ff fs ft fu fw fy fd dc dp dq dn dm ec ep eq en em ik lr ln ly wh wr wf wb wn gz wc ws wa pw pf pl ta, R) := by
  refine sem_of (by decide) (Nat.le_of_ble_eq_true rfl) rfl ?_
  refine r_aload_n dX5_take_0 rfl ?_
  refine r_iconst (v := (nI 0)) dX5_take_1 (by decide) ?_
  refine r_put (w2 := (cW _ _ _ _ _ _ _ _ _ _ _ _ _ _ _ _ _ _ _ _ _ _ _ _ _ _ _ _ _ _ _ _ _ _ _ _ _ _ _, _)) dX5_take_2 fX5_22 rfl rfl (Nat.le_of_ble_eq_true rfl) (fun _ => rfl) (fun _ => rfl) rfl ?_
  refine r_aload_n dX5_take_5 rfl ?_
  refine r_cV dX5_take_6 (s_readText hB) lX5_25 rfl rfl rfl (by decide) ⟨Nat.le_refl _, Nat.le_refl _⟩ (Nat.le_of_ble_eq_true rfl) ?_
  refine r_pc 9 rfl ?_
  refine r_istore_n (ls' := [_, _]) dX5_take_9 (by decide) rfl ?_
  refine r_aload_n dX5_take_10 rfl ?_
  refine r_iconst (v := (nI 0)) dX5_take_11 (by decide) ?_
  refine r_put (w2 := (cW _ _ _ _ _ _ _ _ _ _ _ _ _ _ _ _ _ _ _ _ _ _ _ _ _ _ _ _ _ _ _ _ _ _ _ _ _ _ _, _)) dX5_take_12 fX5_15 rfl rfl (Nat.le_of_ble_eq_true rfl) (fun _ => rfl) (fun _ => rfl) rfl ?_
  refine r_iload_n dX5_take_15 rfl ?_
  refine r_pc 16 rfl ?_
  exact r_iret dX5_take_16 rfl rfl rfl
end T2
