/-! ===== entry, ends, calls ===== -/
theorem lsa_mem (ad : Nat → Nat) : ∀ (as : List Value) (i : Nat) (q : Nat × Value), q ∈ lsl ad i (lsa as) → q ∈ lv_args i (as.map (cv ad))
  | [], i, q, h => by simp [lsa, lsl] at h
  | .long x :: l, i, q, h => by
    simp only [lsa, lsl, List.mem_cons] at h
    simp only [List.map, lv_args, List.mem_cons]
    rcases h with h | h
    · exact Or.inl h
    · exact Or.inr (lsa_mem ad l (i + 2) q h)
  | .double x :: l, i, q, h => by
    simp only [lsa, lsl, List.mem_cons] at h
    simp only [List.map, lv_args, List.mem_cons]
    rcases h with h | h
    · exact Or.inl h
    · exact Or.inr (lsa_mem ad l (i + 2) q h)
  | .int x :: l, i, q, h => by
    simp only [lsa, lsl, List.mem_cons] at h
    simp only [List.map, lv_args, List.mem_cons]
    rcases h with h | h
    · exact Or.inl h
    · exact Or.inr (lsa_mem ad l (i + 1) q h)
  | .float x :: l, i, q, h => by
    simp only [lsa, lsl, List.mem_cons] at h
    simp only [List.map, lv_args, List.mem_cons]
    rcases h with h | h
    · exact Or.inl h
    · exact Or.inr (lsa_mem ad l (i + 1) q h)
  | .null :: l, i, q, h => by
    simp only [lsa, lsl, List.mem_cons] at h
    simp only [List.map, lv_args, List.mem_cons]
    rcases h with h | h
    · exact Or.inl h
    · exact Or.inr (lsa_mem ad l (i + 1) q h)
  | .ref x :: l, i, q, h => by
    simp only [lsa, lsl, List.mem_cons] at h
    simp only [List.map, lv_args, List.mem_cons]
    rcases h with h | h
    · exact Or.inl h
    · exact Or.inr (lsa_mem ad l (i + 1) q h)
  | .retAddr x :: l, i, q, h => by
    simp only [lsa, lsl, List.mem_cons] at h
    simp only [List.map, lv_args, List.mem_cons]
    rcases h with h | h
    · exact Or.inl h
    · exact Or.inr (lsa_mem ad l (i + 1) q h)
def lpad (n : Nat) (l : List (Option Value)) : List (Option Value) := l ++ List.replicate (n - l.length) none
theorem lpad_mem {ad : Nat → Nat} {n : Nat} {l : List (Option Value)} {q : Nat × Value} (h : q ∈ lsl ad 0 (lpad n l)) : q ∈ lsl ad 0 l := by
  obtain ⟨j, v, h1, rfl⟩ := (lsl_mem ad _ 0 _).mp h
  refine (lsl_mem ad _ 0 _).mpr ⟨j, v, ?_, rfl⟩
  unfold lpad at h1
  by_cases hj : j < l.length
  · rwa [List.getElem?_append_left hj] at h1
  · rw [List.getElem?_append_right (by omega)] at h1
    have h2 := List.mem_of_getElem? h1
    have h3 := List.eq_of_mem_replicate h2
    cases h3
def lsaLen : List Value → Nat
  | [] => 0
  | v :: l => v.category + lsaLen l
theorem lsaLen_sl (ad : Nat → Nat) : ∀ as : List Value, (lg_sl (as.map (cv ad))).length = lsaLen as
  | [] => rfl
  | v :: l => by
    have ih := lsaLen_sl ad l
    unfold lg_sl at ih ⊢
    rw [List.map_cons, List.flatMap_cons, List.length_append, ih, lsaLen, cv_cat]
    rcases lv_cat v with h | h <;> simp [h]
/-- from the walk of the body to the method -/
theorem sem_of {M : MI} {k mc ms : Nat} {as : List Value} {w w' : WD} {r : Option Value} {ls : List (Option Value)} (hpl : plainName M.1.cls = true) (hlen : lsaLen as ≤ M.2.2.1) (hls : lpad M.2.2.1 (lsa as) = ls) (K : Rn M k mc ms w r w' 0 0 0 ls [] w) : Sem M k mc ms as w r w' := by
  intro l D cA ad sz
  refine Met.ofW (cc := M.2.1) (maxL := M.2.2.1) (ret := M.2.2.2) hpl rfl ?_
  intro p e s m args below meth c s₁ B hml hv
  obtain ⟨rfl, hsz, hP, hK, hD0, hSt⟩ := hv
  have hts := atoms_spec (ws := Cond.code M.1 M.2.1 M.2.2.1 M.2.2.2 :: lw_gd) B.pre
  have hown : s.vm.findClass M.1.cls = some m.cls := findClass_of_methodNamed B.named
  have hin : meth.name = M.1.name := (name_of_methodNamed B.named B.method).1
  subst hsz
  have hD := hD0.self (sz := s.heap.size)
  have hl := lv_entry (as.map (cv ad)) (n := M.2.2.1) (by rw [lsaLen_sl]; exact hlen)
  rw [lg_entry_eq]
  exact K p l e s m _ below meth c D cA ad (va_A (cw ad cA w) s.heap.size) ⟨B.exec, B.bytes, hml, B.returns, B.notSynchronized, hin, hown, fun w h => hts w (List.mem_cons_of_mem _ h), hK, fun q h => Or.inr h, hSt⟩ trivial ad s.heap [] _ ⟨fun _ => rfl, fun _ _ => rfl⟩ hP hD va_S.rf (by
    refine lv_mono hl (fun q hq => ?_)
    rw [← hls] at hq
    exact lsa_mem ad as 0 q (lpad_mem hq))
section RE
variable {M : MI} {k mc ms : Nat} {w0 : WD} {pc : Nat} {ls : List (Option Value)} {w w' : WD} {r : Option Value}
theorem r_iret {v : Int32} (hd : decode M.2.1 pc = .ok (.ireturn, 1)) (hr : M.2.2.2 = some .int) (hv : r = some (.int v)) (hw : w = w') : Rn M k mc ms w0 r w' mc ms pc ls [.int v] w := by
  subst hv; subst hw
  intro p l e s m args below meth c D cA ad0 A hC hX ad H locs lsA hg hP hD hS hl
  have hlocks := hC.2.2.2.2.1
  exact W.iret hC.1 hC.2.1 (hC.2.2.2.1.trans hr) (fun t ht hW => ⟨ad, hg, rfl, by rw [ht]; exact hP, hD, hS.F ht⟩) hS.2.2 hd
theorem r_zret {v : Int32} {ty : FieldType} (hd : decode M.2.1 pc = .ok (.ireturn, 1)) (hr : M.2.2.2 = some ty) (hn : narrow ty (.int v) = .int v) (hv : r = some (.int v)) (hw : w = w') : Rn M k mc ms w0 r w' mc ms pc ls [.int v] w := by
  subst hv; subst hw
  intro p l e s m args below meth c D cA ad0 A hC hX ad H locs lsA hg hP hD hS hl
  have hlocks := hC.2.2.2.2.1
  exact W.zret hC.1 hC.2.1 (hC.2.2.2.1.trans hr) hn (fun t ht hW => ⟨ad, hg, rfl, by rw [ht]; exact hP, hD, hS.F ht⟩) hS.2.2 hd
theorem r_lret {v : Int64} (hd : decode M.2.1 pc = .ok (.lreturn, 1)) (hr : M.2.2.2 = some .long) (hv : r = some (.long v)) (hw : w = w') : Rn M k mc ms w0 r w' mc ms pc ls [.long v] w := by
  subst hv; subst hw
  intro p l e s m args below meth c D cA ad0 A hC hX ad H locs lsA hg hP hD hS hl
  have hlocks := hC.2.2.2.2.1
  exact W.lret hC.1 hC.2.1 (hC.2.2.2.1.trans hr) (fun t ht hW => ⟨ad, hg, rfl, by rw [ht]; exact hP, hD, hS.F ht⟩) hS.2.2 hd
theorem r_vret (hd : decode M.2.1 pc = .ok (.return_, 1)) (hr : M.2.2.2 = none) (hv : r = none) (hw : w = w') : Rn M k mc ms w0 r w' mc ms pc ls [] w := by
  subst hv; subst hw
  intro p l e s m args below meth c D cA ad0 A hC hX ad H locs lsA hg hP hD hS hl
  have hlocks := hC.2.2.2.2.1
  exact W.vret hC.1 hC.2.1 (hC.2.2.2.1.trans hr) (fun t ht hW => ⟨ad, hg, rfl, by rw [ht]; exact hP, hD, hS.F ht⟩) hS.2.2 hd
end RE
/-! calls that make nothing -/
def Fb (D : va_G) (cA : Nat → ClassId) (ad : Nat → Nat) (as : List Value) (w : WD) (sz : Nat) : Array Value → State → Prop := va_Pc (as.map (cv ad)) (fun U => U.heap.size = sz ∧ va_P D vwCl (cw ad cA w) U.heap ∧ va_K D vwCl (tyl cA) U ∧ va_D (fun _ => True) (cw ad cA w) ∧ St ad (va_A (cw ad cA w) sz) U U.heap)
theorem Fb_blind {D : va_G} {cA : Nat → ClassId} {ad : Nat → Nat} {as : List Value} {w : WD} {sz : Nat} : FrameBlind (Fb D cA ad as w sz) := by
  intro a U g mk q
  obtain ⟨q0, q1, qP, qK, qD, qS⟩ := q
  exact ⟨q0, q1, qP, va_K.moved (u := U) (U := U.calling g mk a) (Vm.Alike.refl U.vm) qK, qD, St.same (s := U) (U := U.calling g mk a) rfl qS⟩
theorem Fb_of {M : MI} {p : Program} {s : State} {m : MethodId} {args : Array Value} {meth : Method} {c : Code} {D : va_G} {cA : Nat → ClassId} {ad0 ad : Nat → Nat} {A : Nat → Prop} {w0 w : WD} {mc : Nat} {H : Heap} {locs : List Loc} (as : List Value) (hC : Cx M p s m args meth c D cA ad0 A) (hg : Ag mc w0 ad0 ad) (hP : va_P D vwCl (cw ad cA w) H) (hD : va_D A (cw ad cA w)) (hS : va_S A s.heap H locs) :
    (∀ q, va_A (cw ad cA w) H.size q → A q) ∧ ∀ U : State, U.heap = H → s.WarmedH U.vm → Fb D cA ad as w H.size (as.map (cv ad)).toArray U := by
  have hF : ∀ q, va_A (cw ad cA w) H.size q → A q := by
    intro q h
    rcases h with ⟨k, e, h⟩ | h
    · exact hD.2 k (q, e) h
    · exact hC.2.2.2.2.2.2.2.2.2.1 q (Nat.le_trans hS.1 h)
  refine ⟨hF, fun U hU hW => ⟨rfl, by rw [hU], by rw [hU]; exact hP, va_K.moved hW.alike hC.2.2.2.2.2.2.2.2.1, hD.weaken (fun _ _ _ _ => trivial), ?_⟩⟩
  rw [hU]
  have h1 := hC.2.2.2.2.2.2.2.2.2.2
  have h2 : St ad A s s.heap := h1.ag (fun q hq => hg.2 q (Or.inr hq))
  exact ((h2.kept (fun a ha hn => hS.2.1 a ha hn)).narrow hF).warm hW
/-- a method's words, as entry idx of class own names it (n: how many arguments) -/
def ML (own : String) (idx : Nat) (M2 : MI) (n : Nat) : Prop :=
  (Cond.methodLink own idx M2.1 ∈ lw_gd ∨ ∃ host, Cond.methodLinkNest own idx M2.1 host ∈ lw_ns) ∧ Cond.initialized M2.1.cls ∈ lw_gd ∧ Cond.code M2.1 M2.2.1 M2.2.2.1 M2.2.2.2 ∈ lw_gd ∧ (M2.1.cls ≠ "java/lang/invoke/MethodHandle" ∧ M2.1.cls ≠ "java/lang/invoke/VarHandle" ∧ (parseMethodDescriptor M2.1.desc).map (fun d => d.parameters.length) = some n)
def MLV (own : String) (idx : Nat) (M2 : MI) (n ci : Nat) : Prop := ML own idx M2 n ∧ ci < 8 ∧ M2.1.cls = clC ci ∧ Cond.instanceMethod M2.1 ∈ lw_gd ∧ Cond.selects M2.1.cls M2.1 M2.1 ∈ lw_gd
def MLS (own : String) (idx : Nat) (M2 : MI) (n : Nat) : Prop := ML own idx M2 n ∧ Cond.static M2.1 ∈ lw_gd
section RC
variable {Z : ZT} {X : XT} {M : MI} {k mc ms : Nat} {w0 : WD} {nc ns pc : Nat} {ls : List (Option Value)} {st : List Value} {w w2 : WD}
theorem cv_sum (ad : Nat → Nat) : ∀ l : List Value, ((l.map (cv ad)).map fun v => v.category).sum = (l.map fun v => v.category).sum
  | [] => rfl
  | v :: l => by simp only [List.map_cons, List.sum_cons, cv_sum ad l, cv_cat]
/-- behind a call that makes nothing -/
theorem back0 {p : Program} {l : Launch} {e : Env} {s : State} {m : MethodId} {args : Array Value} {below : List Frame} {meth : Method} {c : Code} {D : va_G} {cA : Nat → ClassId} {ad0 ad : Nat → Nat} {A : Nat → Prop} {H : Heap} {locs : List Loc} {lsA : Array Slot} {st0 : List Value} {r : Option Value} {a : Array Value}
    (hC : Cx M p s m args meth c D cA ad0 A) (hX : X args s ad0 A) (hg : Ag mc w0 ad0 ad) (hS : va_S A s.heap H locs) (hl : lv_has lsA M.2.2.1 (lsl ad 0 ls)) (hF : ∀ q, va_A (cw ad cA w) H.size q → A q)
    (hr : va_Run p l e (rmk k mc ms) s m args below meth c H locs nc ns 0 0 (F0 m pc lsA st0) (st.map (cv ad)) (QQ D cA ad 0 w r w2 (va_A (cw ad cA w) H.size) a) (va_A (cw ad cA w) H.size))
    (K : Rq Z X M k mc ms w0 nc ns (pc + 3) ls (r.toList ++ st) w2) : W p l e (rmk k mc ms) s m args below meth c H locs nc ns (Z below args s D cA ad0 A) (F0 m pc lsA st0) := by
  intro T hT X1
  obtain ⟨v, st₀, t, T', L, h0, X', hL, e1, e2, ⟨ad', hg', hv, hP', hD', hz, hk⟩, stp⟩ := hr T hT X1
  have ha : ad' = ad := hg'.1 rfl
  subst ha
  have hv : v = r.map (cv ad') := by cases hv; rfl
  subst hv
  rw [h0] at hz hk
  have hS' : va_S A s.heap T'.heap (locs ++ L) := ⟨Nat.le_trans hS.1 (by rw [e1]; exact hz), fun q h1 h2 => by rw [e1, hk q (Nat.lt_of_lt_of_le h1 hS.1) (fun z => h2 (hF q z))]; exact hS.2.1 q h1 h2, fun q hq => by
      rcases List.mem_append.mp hq with h | h
      · exact hS.2.2 q h
      · exact hF _ (hL q h)⟩
  obtain ⟨t2, a1, b1⟩ := K p l e s m args below meth c D cA ad0 A hC hX ad' T'.heap (locs ++ L) lsA hg (by rw [e1]; exact hP') (hD'.weaken (fun _ _ _ h => hF _ h)) hS' hl T' rfl X'
  refine ⟨t2, stp t2 ?_, b1⟩
  have e3 : (r.map (cv ad')).toList ++ st.map (cv ad') = (r.toList ++ st).map (cv ad') := by cases r <;> simp
  have e4 : ({ F0 m pc lsA st0 with pc := (F0 m pc lsA st0).pc + 3, stack := (r.map (cv ad')).toList ++ st.map (cv ad') } : JFrame) = F0 m (pc + 3) lsA ((r.toList ++ st).map (cv ad')) := by rw [e3]
  rw [e4]
  exact a1
theorem r_callV {idx k2 n ci q : Nat} {M2 : MI} {as : List Value} {fs : List Value} {r : Option Value} (hd : decode M.2.1 pc = .ok (.invokevirtual idx, 3)) (hM : Sem M2 k2 0 0 (.ref q :: as) w r w2) (hL : MLV M.1.cls idx M2 n ci) (hw : wg w q = some (.inr (ci, fs))) (hn : as.length = n) (hk : k2 + 1 ≤ k ∧ M2.2.2.1 ≤ 19) (hnc : nc ≤ mc ∧ ns ≤ ms) (hst : (st.map fun v => v.category).sum ≤ 8) (K : Rq Z X M k mc ms w0 nc ns (pc + 3) ls (r.toList ++ st) w2) : Rq Z X M k mc ms w0 nc ns pc ls (as.reverse ++ .ref q :: st) w := by
  intro p l e s m args below meth c D cA ad0 A hC hX ad H locs lsA hg hP hD hS hl
  obtain ⟨hF, hPc⟩ := Fb_of (.ref q :: as) hC hg hP hD hS
  obtain ⟨⟨hlk, hini, hcode, hdd⟩, hci, hcl, hinst, hsel⟩ := hL
  obtain ⟨hx, hb, hml, hrt, hlocks, hnm, hown, hts, hK, hA, hSt⟩ := id hC
  obtain ⟨q0, hq, -⟩ := cw_at (ad := ad) (cA := cA) hw
  have hcl2 := (cl_at ci hci).1
  have hG : GoodIn lw_gd (Cond.code M2.1 M2.2.1 M2.2.2.1 M2.2.2.2 :: lw_gd) := gd_goodIn _ (fun _ h => h) hcode
  have hRm : (rmk k2 0 0).frames + 1 ≤ (rmk k mc ms).frames ∧ 8 + (M2.2.2.1 + 11) + (rmk k2 0 0).locals ≤ (rmk k mc ms).locals := by
    unfold rmk
    dsimp only
    omega
  have hrecv := va_recv hK hP (ci := ci) (q0 := q0) hcl2 hq
  have hst2 : (as.reverse ++ .ref q :: st).map (cv ad) = (as.map (cv ad)).reverse ++ .ref (ad q) :: st.map (cv ad) := by simp [cv]
  have hsum : ((st.map (cv ad)).map fun v => v.category).sum ≤ 8 := by rw [cv_sum]; exact hst
  rw [hst2]
  have hM' := hM l D cA ad H.size
  refine back0 hC hX hg hS hl hF (r := r) (w2 := w2) (a := (Value.ref (ad q) :: as.map (cv ad)).toArray) ?_ K
  rcases hlk with hlk | ⟨host, hlk⟩
  · exact va_runV (As := as.map (cv ad)) ⟨hx, hb, hml, hown, hts⟩ hM' ⟨callB_of n hts hG rfl rfl rfl (hts _ hini) (hts _ hlk) hdd hRm, hts _ hinst, hts _ hsel⟩ ⟨Fb_blind, by rw [hcl]; exact hrecv, hPc⟩ rfl (by simpa using hn) hl.1 rfl (lv_room hsum) hd ⟨hnc.1, hnc.2⟩
  · exact va_runVN (As := as.map (cv ad)) ⟨hx, hb, hml, hown, hts⟩ hM' ⟨va_cnB n hts hG rfl rfl rfl (hSt.2.2.1.2.1 _ hlk) (hts _ hini) hdd hRm, hts _ hinst, hts _ hsel⟩ ⟨Fb_blind, by rw [hcl]; exact hrecv, hPc⟩ rfl (by simpa using hn) hl.1 rfl (lv_room hsum) hd ⟨hnc.1, hnc.2⟩
theorem r_callS {idx k2 n : Nat} {M2 : MI} {as : List Value} {r : Option Value} (hd : decode M.2.1 pc = .ok (.invokestatic idx, 3)) (hM : Sem M2 k2 0 0 as w r w2) (hL : MLS M.1.cls idx M2 n) (hn : as.length = n) (hk : k2 + 1 ≤ k ∧ M2.2.2.1 ≤ 19) (hnc : nc ≤ mc ∧ ns ≤ ms) (hst : (st.map fun v => v.category).sum ≤ 8) (K : Rq Z X M k mc ms w0 nc ns (pc + 3) ls (r.toList ++ st) w2) : Rq Z X M k mc ms w0 nc ns pc ls (as.reverse ++ st) w := by
  intro p l e s m args below meth c D cA ad0 A hC hX ad H locs lsA hg hP hD hS hl
  obtain ⟨hF, hPc⟩ := Fb_of as hC hg hP hD hS
  obtain ⟨⟨hlk, hini, hcode, hdd⟩, hstat⟩ := hL
  obtain ⟨hx, hb, hml, hrt, hlocks, hnm, hown, hts, hK, hA, hSt⟩ := id hC
  have hG : GoodIn lw_gd (Cond.code M2.1 M2.2.1 M2.2.2.1 M2.2.2.2 :: lw_gd) := gd_goodIn _ (fun _ h => h) hcode
  have hRm : (rmk k2 0 0).frames + 1 ≤ (rmk k mc ms).frames ∧ 8 + (M2.2.2.1 + 11) + (rmk k2 0 0).locals ≤ (rmk k mc ms).locals := by
    unfold rmk
    dsimp only
    omega
  have hst2 : (as.reverse ++ st).map (cv ad) = (as.map (cv ad)).reverse ++ st.map (cv ad) := by simp
  have hsum : ((st.map (cv ad)).map fun v => v.category).sum ≤ 8 := by rw [cv_sum]; exact hst
  rw [hst2]
  have hM' := hM l D cA ad H.size
  refine back0 hC hX hg hS hl hF (r := r) (w2 := w2) (a := (as.map (cv ad)).toArray) ?_ K
  rcases hlk with hlk | ⟨host, hlk⟩
  · exact va_runS (As := as.map (cv ad)) ⟨hx, hb, hml, hown, hts⟩ hM' ⟨callB_of n hts hG rfl rfl rfl (hts _ hini) (hts _ hlk) hdd hRm, hts _ hstat⟩ ⟨Fb_blind, hPc⟩ rfl (by simpa using hn) hl.1 rfl (lv_room hsum) hd ⟨hnc.1, hnc.2⟩
  · exact va_runSN (As := as.map (cv ad)) ⟨hx, hb, hml, hown, hts⟩ hM' ⟨va_cnB n hts hG rfl rfl rfl (hSt.2.2.1.2.1 _ hlk) (hts _ hini) hdd hRm, hts _ hstat, trivial⟩ ⟨Fb_blind, hPc⟩ rfl (by simpa using hn) hl.1 rfl (lv_room hsum) hd ⟨hnc.1, hnc.2⟩
end RC
