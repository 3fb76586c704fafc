/-! ===== the abstract machine: places instead of addresses; the class's cells are places 0 .., the reference's 100 ..; constant arrays 1000 .., texts 2000 .., their bytes 3000 .. ===== -/
abbrev AE : Type := (Nat × vp_A) ⊕ (Nat × List Value)
abbrev WD : Type := List AE × List AE
def cv (ad : Nat → Nat) (v : Value) : Value := match v with
  | .ref p => .ref (ad p)
  | .int x => .int x
  | .long x => .long x
  | .float x => .float x
  | .double x => .double x
  | .null => .null
  | .retAddr x => .retAddr x
theorem cv_cat (ad : Nat → Nat) (v : Value) : (cv ad v).category = v.category := by cases v <;> rfl
def ca (ad : Nat → Nat) (a : vp_A) : vp_A := (a.1, match a.2 with
  | .inl f => .inl f
  | .inr (.inl f) => .inr (.inl f)
  | .inr (.inr (.inl f)) => .inr (.inr (.inl f))
  | .inr (.inr (.inr (.inl f))) => .inr (.inr (.inr (.inl f)))
  | .inr (.inr (.inr (.inr f))) => .inr (.inr (.inr (.inr (fun j => (f j).map ad)))))
def ce (ad : Nat → Nat) (cA : Nat → ClassId) (e : AE) : va_E := match e with
  | .inl x => .inl (cA x.1, ca ad x.2)
  | .inr o => .inr (o.1, o.2.map (cv ad))
def cwl (ad : Nat → Nat) (cA : Nat → ClassId) : Nat → List AE → va_W
  | _, [] => []
  | i, e :: l => (ad i, ce ad cA e) :: cwl ad cA (i + 1) l
theorem cwl_len (ad : Nat → Nat) (cA : Nat → ClassId) : ∀ (l : List AE) (i : Nat), (cwl ad cA i l).length = l.length
  | [], _ => rfl
  | _ :: l, i => congrArg (· + 1) (cwl_len ad cA l (i + 1))
theorem cwl_get (ad : Nat → Nat) (cA : Nat → ClassId) : ∀ (l : List AE) (i k : Nat), (cwl ad cA i l)[k]? = (l[k]?).map (fun e => (ad (i + k), ce ad cA e))
  | [], i, k => by simp [cwl]
  | e :: l, i, 0 => by simp [cwl]
  | e :: l, i, k + 1 => by
    have h := cwl_get ad cA l (i + 1) k
    simp only [cwl, List.getElem?_cons_succ, h]
    rw [show i + 1 + k = i + (k + 1) by omega]
theorem cwl_set (ad : Nat → Nat) (cA : Nat → ClassId) (e : AE) : ∀ (l : List AE) (i k : Nat), (cwl ad cA i l).set k (ad (i + k), ce ad cA e) = cwl ad cA i (l.set k e)
  | [], i, k => by simp [cwl]
  | e0 :: l, i, 0 => by simp [cwl]
  | e0 :: l, i, k + 1 => by
    have h := cwl_set ad cA e l (i + 1) k
    simp only [cwl, List.set_cons_succ]
    rw [← h, show i + 1 + k = i + (k + 1) by omega]
theorem cwl_app (ad : Nat → Nat) (cA : Nat → ClassId) : ∀ (l l2 : List AE) (i : Nat), cwl ad cA i (l ++ l2) = cwl ad cA i l ++ cwl ad cA (i + l.length) l2
  | [], l2, i => by simp [cwl]
  | e :: l, l2, i => by
    simp only [List.cons_append, cwl, cwl_app ad cA l l2 (i + 1), List.length_cons]
    rw [show i + 1 + l.length = i + (l.length + 1) by omega]
def cw (ad : Nat → Nat) (cA : Nat → ClassId) (w : WD) : va_W := cwl ad cA 0 w.1 ++ cwl ad cA 100 w.2
def wg (w : WD) (p : Nat) : Option AE := match Nat.blt p 100 with
  | true => w.1[p]?
  | false => w.2[p - 100]?
def wput (w : WD) (p : Nat) (e : AE) : WD := match Nat.blt p 100 with
  | true => (w.1.set p e, w.2)
  | false => (w.1, w.2.set (p - 100) e)
theorem cw_at {ad : Nat → Nat} {cA : Nat → ClassId} {w : WD} {p : Nat} {e : AE} (h : wg w p = some e) : ∃ k : Nat, (cw ad cA w)[k]? = some (ad p, ce ad cA e) ∧ ∀ e', (cw ad cA w).set k (ad p, ce ad cA e') = cw ad cA (wput w p e') := by
  unfold wg at h
  cases hb : Nat.blt p 100 with
  | true =>
    rw [hb] at h
    dsimp only at h
    have hl : p < w.1.length := (List.getElem?_eq_some_iff.mp h).1
    refine ⟨p, ?_, fun e' => ?_⟩
    · unfold cw
      rw [List.getElem?_append_left (by rw [cwl_len]; exact hl), cwl_get, h]
      simp
    · unfold cw wput
      rw [hb, List.set_append_left _ _ (by rw [cwl_len]; exact hl)]
      have := cwl_set ad cA e' w.1 0 p
      rw [Nat.zero_add] at this
      rw [this]
  | false =>
    rw [hb] at h
    dsimp only at h
    have hge : 100 ≤ p := Nat.not_lt.mp (fun q => by
      have h1 : Nat.ble (p + 1) 100 = true := Nat.ble_eq_true_of_le q
      have h2 : Nat.ble (p + 1) 100 = false := hb
      rw [h1] at h2
      cases h2)
    have hp : 100 + (p - 100) = p := by omega
    refine ⟨w.1.length + (p - 100), ?_, fun e' => ?_⟩
    · unfold cw
      rw [List.getElem?_append_right (by rw [cwl_len]; omega), cwl_len, cwl_get, show w.1.length + (p - 100) - w.1.length = p - 100 by omega, h]
      simp [hp]
    · unfold cw wput
      rw [hb, List.set_append_right _ _ (by rw [cwl_len]; omega), cwl_len, show w.1.length + (p - 100) - w.1.length = p - 100 by omega]
      have := cwl_set ad cA e' w.2 100 (p - 100)
      rw [hp] at this
      rw [this]
/-! locals -/
def lsl (ad : Nat → Nat) : Nat → List (Option Value) → List (Nat × Value)
  | _, [] => []
  | i, none :: l => lsl ad (i + 1) l
  | i, some v :: l => (i, cv ad v) :: lsl ad (i + 1) l
theorem lsl_mem (ad : Nat → Nat) : ∀ (l : List (Option Value)) (i : Nat) (q : Nat × Value), q ∈ lsl ad i l ↔ ∃ (j : Nat) (v : Value), l[j]? = some (some v) ∧ q = (i + j, cv ad v)
  | [], i, q => by simp [lsl]
  | none :: l, i, q => by
    rw [lsl, lsl_mem ad l (i + 1) q]
    constructor
    · rintro ⟨j, v, h, rfl⟩
      exact ⟨j + 1, v, by simpa using h, by rw [show i + 1 + j = i + (j + 1) by omega]⟩
    · rintro ⟨j, v, h, rfl⟩
      cases j with
      | zero => simp at h
      | succ j => exact ⟨j, v, by simpa using h, by rw [show i + 1 + j = i + (j + 1) by omega]⟩
  | some u :: l, i, q => by
    rw [lsl, List.mem_cons, lsl_mem ad l (i + 1) q]
    constructor
    · rintro (rfl | ⟨j, v, h, rfl⟩)
      · exact ⟨0, u, by simp, by simp⟩
      · exact ⟨j + 1, v, by simpa using h, by rw [show i + 1 + j = i + (j + 1) by omega]⟩
    · rintro ⟨j, v, h, rfl⟩
      cases j with
      | zero =>
        simp at h
        subst h
        exact Or.inl (by simp)
      | succ j => exact Or.inr ⟨j, v, by simpa using h, by rw [show i + 1 + j = i + (j + 1) by omega]⟩
theorem lv_mono {ls : Array Slot} {n : Nat} {l l' : List (Nat × Value)} (h : lv_has ls n l) (hs : ∀ q ∈ l', q ∈ l) : lv_has ls n l' := ⟨h.1, h.2.1, fun q hq => h.2.2 q (hs q hq)⟩
theorem lsl_at {ad : Nat → Nat} {lsA : Array Slot} {n i : Nat} {ls : List (Option Value)} {v : Value} (h : lv_has lsA n (lsl ad 0 ls)) (hi : ls[i]? = some (some v)) : lsA[i]? = some (.val (cv ad v)) :=
  h.2.2 (i, cv ad v) ((lsl_mem ad ls 0 _).mpr ⟨i, v, hi, by simp⟩)
def lkill (ls : List (Option Value)) (i : Nat) : List (Option Value) := match i with
  | 0 => ls
  | k + 1 => match ls[k]? with
    | some (some (.long _)) => ls.set k none
    | some (some (.double _)) => ls.set k none
    | _ => ls
def lst1 (ls : List (Option Value)) (i : Nat) (v : Value) : List (Option Value) := (lkill ls i).set i (some v)
def lst2 (ls : List (Option Value)) (i : Nat) (v : Value) : List (Option Value) := (lst1 ls i v).set (i + 1) none
theorem lkill_at {ls : List (Option Value)} {i j : Nat} {v : Value} (h : (lkill ls i)[j]? = some (some v)) : ls[j]? = some (some v) ∧ ¬ (j + 1 = i ∧ v.category = 2) := by
  cases i with
  | zero => exact ⟨h, fun q => by omega⟩
  | succ k =>
    unfold lkill at h
    dsimp only at h
    by_cases hj : j = k
    · subst hj
      split at h
      · rename_i hu
        have hl := (List.getElem?_eq_some_iff.mp hu).1
        rw [List.getElem?_set_self hl] at h
        cases h
      · rename_i hu
        have hl := (List.getElem?_eq_some_iff.mp hu).1
        rw [List.getElem?_set_self hl] at h
        cases h
      · rename_i h1 h2
        refine ⟨h, fun q => ?_⟩
        cases v with
        | long x => exact h1 x h
        | double x => exact h2 x h
        | _ => simp [Value.category] at q
    · refine ⟨?_, fun q => hj (by omega)⟩
      split at h
      · rwa [List.getElem?_set_ne (fun q => hj q.symm)] at h
      · rwa [List.getElem?_set_ne (fun q => hj q.symm)] at h
      · exact h
theorem lst1_mem {ad : Nat → Nat} {ls : List (Option Value)} {i : Nat} {v : Value} {q : Nat × Value} (h : q ∈ lsl ad 0 (lst1 ls i v)) : q = (i, cv ad v) ∨ (q ∈ lsl ad 0 ls ∧ ¬ q.1 = i ∧ ¬ (q.1 + 1 = i ∧ q.2.category = 2)) := by
  obtain ⟨j, u, hu, rfl⟩ := (lsl_mem ad _ 0 _).mp h
  unfold lst1 at hu
  by_cases hj : i = j
  · subst hj
    have hl : i < (lkill ls i).length := by
      have := (List.getElem?_eq_some_iff.mp hu).1
      simpa using this
    rw [List.getElem?_set_self hl] at hu
    cases hu
    exact Or.inl (by simp)
  · rw [List.getElem?_set_ne hj] at hu
    obtain ⟨h1, h2⟩ := lkill_at hu
    refine Or.inr ⟨(lsl_mem ad ls 0 _).mpr ⟨j, u, h1, rfl⟩, fun q => hj (by simpa using q.symm), fun q => h2 ⟨by simpa using q.1, by rw [← cv_cat ad]; exact q.2⟩⟩
theorem lst2_mem {ad : Nat → Nat} {ls : List (Option Value)} {i : Nat} {v : Value} {q : Nat × Value} (h : q ∈ lsl ad 0 (lst2 ls i v)) : q = (i, cv ad v) ∨ (q ∈ lsl ad 0 ls ∧ ¬ q.1 = i ∧ ¬ q.1 = i + 1 ∧ ¬ (q.1 + 1 = i ∧ q.2.category = 2)) := by
  obtain ⟨j, u, hu, rfl⟩ := (lsl_mem ad _ 0 _).mp h
  unfold lst2 at hu
  by_cases hj : i + 1 = j
  · subst hj
    have hl : i + 1 < (lst1 ls i v).length := by
      have := (List.getElem?_eq_some_iff.mp hu).1
      simpa using this
    rw [List.getElem?_set_self hl] at hu
    cases hu
  · rw [List.getElem?_set_ne hj] at hu
    rcases lst1_mem ((lsl_mem ad (lst1 ls i v) 0 _).mpr ⟨j, u, hu, rfl⟩) with h1 | ⟨h1, h2, h3⟩
    · exact Or.inl h1
    · exact Or.inr ⟨h1, h2, fun q => hj (by simpa using q.symm), h3⟩
/-- fewer values known -/
def lsub (ls' ls : List (Option Value)) : Prop := ∀ (j : Nat) (v : Value), ls'[j]? = some (some v) → ls[j]? = some (some v)
theorem lsub_mem {ad : Nat → Nat} {ls' ls : List (Option Value)} (h : lsub ls' ls) {q : Nat × Value} (hq : q ∈ lsl ad 0 ls') : q ∈ lsl ad 0 ls := by
  obtain ⟨j, v, h1, rfl⟩ := (lsl_mem ad ls' 0 _).mp hq
  exact (lsl_mem ad ls 0 _).mpr ⟨j, v, h j v h1, rfl⟩
def lsubs : List (Option Value) → List (Option Value) → Prop
  | [], _ => True
  | none :: l', _ :: l => lsubs l' l
  | none :: l', [] => lsubs l' []
  | some v :: l', x :: l => x = some v ∧ lsubs l' l
  | some _ :: _, [] => False
theorem lsubs_ok : ∀ (l' l : List (Option Value)), lsubs l' l → lsub l' l
  | [], l, _ => fun j v h => by simp at h
  | none :: l', x :: l, h => fun j v hj => by
    cases j with
    | zero => simp at hj
    | succ j => simpa using lsubs_ok l' l h j v (by simpa using hj)
  | none :: l', [], h => fun j v hj => by
    cases j with
    | zero => simp at hj
    | succ j => simpa using lsubs_ok l' [] h j v (by simpa using hj)
  | some u :: l', x :: l, h => fun j v hj => by
    cases j with
    | zero =>
      simp at hj
      subst hj
      simp [h.1]
    | succ j => simpa using lsubs_ok l' l h.2 j v (by simpa using hj)
