/-! ===== ends that say what holds, not which world it is ===== -/
def QP (D : va_G) (cA : Nat → ClassId) (ad0 : Nat → Nat) (mc : Nat) (w0 : WD) (P : Option Value → WD → Prop) (A : Nat → Prop) : Array Value → State → Outcome → State → Prop := fun _ st oc t =>
  ∃ (r : Option Value) (w' : WD) (ad : Nat → Nat), P r w' ∧ Ag mc w0 ad0 ad ∧ oc = .returned (r.map (cv ad)) ∧ va_P D vwCl (cw ad cA w') t.heap ∧ va_D A (cw ad cA w') ∧ va_F A st t
def Zp (mc ms : Nat) (w0 : WD) (P : Option Value → WD → Prop) : ZT := fun below args s D cA ad0 A => MQ below (QP D cA ad0 mc w0 P A) args s mc ms A
abbrev Rp (M : MI) (k mc ms : Nat) (w0 : WD) (P : Option Value → WD → Prop) (nc ns pc : Nat) (ls : List (Option Value)) (st : List Value) (w : WD) : Prop := Rq (Zp mc ms w0 P) Xm M k mc ms w0 nc ns pc ls st w
def SemP (M : MI) (k mc ms : Nat) (as : List Value) (w : WD) (P : Option Value → WD → Prop) : Prop :=
  ∀ (l : Launch) (D : va_G) (cA : Nat → ClassId) (ad : Nat → Nat) (sz : Nat), Met l M.1 (Cond.code M.1 M.2.1 M.2.2.1 M.2.2.2 :: lw_gd) (rmk k mc ms) (Fb D cA ad as w sz) (QP D cA ad mc w P (va_A (cw ad cA w) sz)) mc ms (va_A (cw ad cA w) sz)
theorem semP_of {M : MI} {k mc ms : Nat} {as : List Value} {w : WD} {P : Option Value → WD → Prop} {ls : List (Option Value)} (hpl : plainName M.1.cls = true) (hlen : lsaLen as ≤ M.2.2.1) (hls : lpad M.2.2.1 (lsa as) = ls) (K : Rp M k mc ms w P 0 0 0 ls [] w) : SemP M k mc ms as w P := by
  intro l D cA ad sz
  refine Met.ofW (cc := M.2.1) (maxL := M.2.2.1) (ret := M.2.2.2) hpl rfl ?_
  intro p e s m args below meth c s₁ B hml hv
  obtain ⟨rfl, hsz, hP, hK, hD0, hSt⟩ := hv
  have hts := atoms_spec (ws := Cond.code M.1 M.2.1 M.2.2.1 M.2.2.2 :: lw_gd) B.pre
  have hown : s.vm.findClass M.1.cls = some m.cls := findClass_of_methodNamed B.named
  have hin : meth.name = M.1.name := (name_of_methodNamed B.named B.method).1
  subst hsz
  have hD := hD0.self (sz := s.heap.size)
  have hl := lv_entry (as.map (cv ad)) (n := M.2.2.1) (by rw [lsaLen_sl]; exact hlen)
  rw [lg_entry_eq]
  exact K p l e s m _ below meth c D cA ad (va_A (cw ad cA w) s.heap.size) ⟨B.exec, B.bytes, hml, B.returns, B.notSynchronized, hin, hown, fun w h => hts w (List.mem_cons_of_mem _ h), hK, fun q h => Or.inr h, hSt⟩ trivial ad s.heap [] _ ⟨fun _ => rfl, fun _ _ => rfl⟩ hP hD va_S.rf (by
    refine lv_mono hl (fun q hq => ?_)
    rw [← hls] at hq
    exact lsa_mem ad as 0 q (lpad_mem hq))
theorem semP_imp {M : MI} {k mc ms : Nat} {as : List Value} {w : WD} {P P' : Option Value → WD → Prop} (h : SemP M k mc ms as w P) (hi : ∀ r w', P r w' → P' r w') : SemP M k mc ms as w P' := by
  intro l D cA ad sz p e ha hc hk s m args below hf hpre hP hx
  obtain ⟨t, o, h1, h2, h3, ⟨r, w', ad', hp, h4⟩, h5⟩ := h l D cA ad sz p e ha hc hk s m args below hf hpre hP hx
  exact ⟨t, o, h1, h2, h3, ⟨r, w', ad', hi r w' hp, h4⟩, h5⟩
section RPE
variable {M : MI} {k mc ms : Nat} {w0 : WD} {pc : Nat} {ls : List (Option Value)} {w : WD} {P : Option Value → WD → Prop}
theorem r_iretP {v : Int32} (hd : decode M.2.1 pc = .ok (.ireturn, 1)) (hr : M.2.2.2 = some .int) (hp : P (some (.int v)) w) : Rp M k mc ms w0 P mc ms pc ls [.int v] w := by
  intro p l e s m args below meth c D cA ad0 A hC hX ad H locs lsA hg hP hD hS hl
  have hlocks := hC.2.2.2.2.1
  exact W.iret hC.1 hC.2.1 (hC.2.2.2.1.trans hr) (fun t ht hW => ⟨_, w, ad, hp, hg, rfl, by rw [ht]; exact hP, hD, hS.F ht⟩) hS.2.2 hd
theorem r_zretP {v : Int32} {ty : FieldType} (hd : decode M.2.1 pc = .ok (.ireturn, 1)) (hr : M.2.2.2 = some ty) (hn : narrow ty (.int v) = .int v) (hp : P (some (.int v)) w) : Rp M k mc ms w0 P mc ms pc ls [.int v] w := by
  intro p l e s m args below meth c D cA ad0 A hC hX ad H locs lsA hg hP hD hS hl
  have hlocks := hC.2.2.2.2.1
  exact W.zret hC.1 hC.2.1 (hC.2.2.2.1.trans hr) hn (fun t ht hW => ⟨_, w, ad, hp, hg, rfl, by rw [ht]; exact hP, hD, hS.F ht⟩) hS.2.2 hd
theorem r_vretP (hd : decode M.2.1 pc = .ok (.return_, 1)) (hr : M.2.2.2 = none) (hp : P none w) : Rp M k mc ms w0 P mc ms pc ls [] w := by
  intro p l e s m args below meth c D cA ad0 A hC hX ad H locs lsA hg hP hD hS hl
  have hlocks := hC.2.2.2.2.1
  exact W.vret hC.1 hC.2.1 (hC.2.2.2.1.trans hr) (fun t ht hW => ⟨_, w, ad, hp, hg, rfl, by rw [ht]; exact hP, hD, hS.F ht⟩) hS.2.2 hd
end RPE
section RPC
variable {Z : ZT} {X : XT} {M : MI} {k mc ms : Nat} {w0 : WD} {nc ns pc : Nat} {ls : List (Option Value)} {st stk : List Value} {w : WD} {P : Option Value → WD → Prop}
theorem backP {p : Program} {l : Launch} {e : Env} {s : State} {m : MethodId} {args : Array Value} {below : List Frame} {meth : Method} {c : Code} {D : va_G} {cA : Nat → ClassId} {ad0 ad : Nat → Nat} {A : Nat → Prop} {H : Heap} {locs : List Loc} {lsA : Array Slot} {st0 : List Value} {a : Array Value}
    (hC : Cx M p s m args meth c D cA ad0 A) (hX : X args s ad0 A) (hg : Ag mc w0 ad0 ad) (hS : va_S A s.heap H locs) (hl : lv_has lsA M.2.2.1 (lsl ad 0 ls)) (hF : ∀ q, va_A (cw ad cA w) H.size q → A q)
    (hr : va_Run p l e (rmk k mc ms) s m args below meth c H locs nc ns 0 0 (F0 m pc lsA st0) (st.map (cv ad)) (QP D cA ad 0 w P (va_A (cw ad cA w) H.size) a) (va_A (cw ad cA w) H.size))
    (K : ∀ r w2, P r w2 → Rq Z X M k mc ms w0 nc ns (pc + 3) ls (r.toList ++ st) w2) : W p l e (rmk k mc ms) s m args below meth c H locs nc ns (Z below args s D cA ad0 A) (F0 m pc lsA st0) := by
  intro T hT X1
  obtain ⟨v, st₀, t, T', L, h0, X', hL, e1, e2, ⟨r, w2, ad', hp, hg', hv, hP', hD', hz, hk⟩, stp⟩ := hr T hT X1
  have ha : ad' = ad := hg'.1 rfl
  subst ha
  have hv : v = r.map (cv ad') := by cases hv; rfl
  subst hv
  rw [h0] at hz hk
  have hS' : va_S A s.heap T'.heap (locs ++ L) := ⟨Nat.le_trans hS.1 (by rw [e1]; exact hz), fun q h1 h2 => by rw [e1, hk q (Nat.lt_of_lt_of_le h1 hS.1) (fun z => h2 (hF q z))]; exact hS.2.1 q h1 h2, fun q hq => by
      rcases List.mem_append.mp hq with h | h
      · exact hS.2.2 q h
      · exact hF _ (hL q h)⟩
  obtain ⟨t2, a1, b1⟩ := K r w2 hp p l e s m args below meth c D cA ad0 A hC hX ad' T'.heap (locs ++ L) lsA hg (by rw [e1]; exact hP') (hD'.weaken (fun _ _ _ h => hF _ h)) hS' hl T' rfl X'
  refine ⟨t2, stp t2 ?_, b1⟩
  have e3 : (r.map (cv ad')).toList ++ st.map (cv ad') = (r.toList ++ st).map (cv ad') := by cases r <;> simp
  have e4 : ({ F0 m pc lsA st0 with pc := (F0 m pc lsA st0).pc + 3, stack := (r.map (cv ad')).toList ++ st.map (cv ad') } : JFrame) = F0 m (pc + 3) lsA ((r.toList ++ st).map (cv ad')) := by rw [e3]
  rw [e4]
  exact a1
theorem r_cVP {idx k2 n ci q : Nat} {M2 : MI} {as : List Value} {fs : List Value} (hd : decode M.2.1 pc = .ok (.invokevirtual idx, 3)) (hM : SemP M2 k2 0 0 (.ref q :: as) w P) (hL : MLV M.1.cls idx M2 n ci) (hstk : stk = as.reverse ++ .ref q :: st) (hw : wg w q = some (.inr (ci, fs))) (hn : as.length = n) (hk : k2 + 1 ≤ k ∧ M2.2.2.1 ≤ 19) (hnc : nc ≤ mc ∧ ns ≤ ms) (hst : (st.map fun v => v.category).sum ≤ 8) (K : ∀ r w2, P r w2 → Rq Z X M k mc ms w0 nc ns (pc + 3) ls (r.toList ++ st) w2) : Rq Z X M k mc ms w0 nc ns pc ls stk w := by
  subst hstk
  intro p l e s m args below meth c D cA ad0 A hC hX ad H locs lsA hg hP hD hS hl
  obtain ⟨hF, hPc⟩ := Fb_of (.ref q :: as) hC hg hP hD hS
  obtain ⟨⟨hlk, hini, hcode, hdd⟩, hci, hcl, hinst, hsel⟩ := hL
  obtain ⟨hx, hb, hml, hrt, hlocks, hnm, hown, hts, hK, hA, hSt⟩ := id hC
  obtain ⟨q0, hq, -⟩ := cw_at (ad := ad) (cA := cA) hw
  have hcl2 := (cl_at ci hci).1
  have hG : GoodIn lw_gd (Cond.code M2.1 M2.2.1 M2.2.2.1 M2.2.2.2 :: lw_gd) := gd_goodIn _ (fun _ h => h) hcode
  have hRm : (rmk k2 0 0).frames + 1 ≤ (rmk k mc ms).frames ∧ 8 + (M2.2.2.1 + 11) + (rmk k2 0 0).locals ≤ (rmk k mc ms).locals := by
    unfold rmk
    dsimp only
    omega
  have hrecv := va_recv hK hP (ci := ci) (q0 := q0) hcl2 hq
  have hst2 : (as.reverse ++ .ref q :: st).map (cv ad) = (as.map (cv ad)).reverse ++ .ref (ad q) :: st.map (cv ad) := by simp [cv]
  have hsum : ((st.map (cv ad)).map fun v => v.category).sum ≤ 8 := by rw [cv_sum]; exact hst
  rw [hst2]
  have hM' := hM l D cA ad H.size
  refine backP hC hX hg hS hl hF (P := P) (a := (Value.ref (ad q) :: as.map (cv ad)).toArray) ?_ K
  rcases hlk with hlk | ⟨host, hlk⟩
  · exact va_runV (As := as.map (cv ad)) ⟨hx, hb, hml, hown, hts⟩ hM' ⟨callB_of n hts hG rfl rfl rfl (hts _ hini) (hts _ hlk) hdd hRm, hts _ hinst, hts _ hsel⟩ ⟨Fb_blind, by rw [hcl]; exact hrecv, hPc⟩ rfl (by simpa using hn) hl.1 rfl (lv_room hsum) hd ⟨hnc.1, hnc.2⟩
  · exact va_runVN (As := as.map (cv ad)) ⟨hx, hb, hml, hown, hts⟩ hM' ⟨va_cnB n hts hG rfl rfl rfl (hSt.2.2.1.2.1 _ hlk) (hts _ hini) hdd hRm, hts _ hinst, hts _ hsel⟩ ⟨Fb_blind, by rw [hcl]; exact hrecv, hPc⟩ rfl (by simpa using hn) hl.1 rfl (lv_room hsum) hd ⟨hnc.1, hnc.2⟩
end RPC
/-! ===== the way home: its specification, over squares as numbers ===== -/
abbrev BL : Type := List (Int64 × Nat × Nat)
def pthL (l : BL) : Nat → Nat → List Nat
  | 0, _ => []
  | m + 1, i => if i = 0 then [] else match l[i]? with
    | none => []
    | some x => pthL l m x.2.1 ++ [x.2.2]
def amgL (q : Int64) (l : BL) : Bool := l.any (fun x => decide (x.1 = q))
def bcode (c : Nat) : Nat := 100 * (c / 12) + c % 12
def bin (nx : Int64 → Nat → Option Int64) (hm : Int64) (k : Nat) (q0 : Int64) : Nat → Nat → BL → BL ⊕ (Nat × List Nat)
  | 0, _, l => .inl l
  | m + 1, c, l => match nx q0 c with
    | none => bin nx hm k q0 m (c + 1) l
    | some q => if q = hm then .inr (0, pthL l 250 k ++ [bcode c]) else match amgL q l with
      | true => bin nx hm k q0 m (c + 1) l
      | false => if l.length < 250 then bin nx hm k q0 m (c + 1) (l ++ [(q, k, bcode c)]) else .inr (1, [])
def bout (nx : Int64 → Nat → Option Int64) (hm : Int64) : Nat → Nat → BL → Nat × List Nat
  | 0, _, _ => (2, [])
  | m + 1, k, l => match l[k]? with
    | none => (2, [])
    | some x => match bin nx hm k x.1 108 0 l with
      | .inl l' => bout nx hm m (k + 1) l'
      | .inr r => r
/-- (0, the calls), (1, []) too many squares, (2, []) no way -/
def wayB (nx : Int64 → Nat → Option Int64) (hm q : Int64) : Nat × List Nat := if q = hm then (0, []) else bout nx hm 250 0 [(q, 0, 0)]
def wansI (x : Nat × List Nat) : Int32 := if x.1 = 0 then nI x.2.length else if x.1 = 1 then -7 else -2
