/-! ===== the world: one room of cells at B, B + 1 .., its numbers as functions ===== -/
abbrev St : Type := (Nat → Nat → Int32) × (Nat → Nat → Int64)
abbrev HD : Type := Nat × (Nat → Nat × Nat) × (Nat → Nat → Option Nat)
abbrev GW : Type := Launch × Nat × va_G × (ClassId × ClassId × ClassId) × Heap × (Nat × Nat × (Nat → Int32)) × Nat
def gl (G : GW) : Launch := G.1
def gB (G : GW) : Nat := G.2.1
def gD (G : GW) : va_G := G.2.2.1
def gI (G : GW) : ClassId := G.2.2.2.1.1
def gJ (G : GW) : ClassId := G.2.2.2.1.2.1
def gS (G : GW) : ClassId := G.2.2.2.1.2.2
def gH (G : GW) : Heap := G.2.2.2.2.1
def gX (G : GW) : Nat × Nat × (Nat → Int32) := G.2.2.2.2.2.1
def gU (G : GW) : Nat := G.2.2.2.2.2.2
def gA (G : GW) : Nat → Prop := fun q => gB G ≤ q
def gT (G : GW) : List (ClassId × FieldType) := [(gI G, .int), (gJ G, .long), (gS G, .object "OwnWeather$Sheet")]
def rf (G : GW) (k : Nat) : Value := .ref (gB G + k)
/-- the kinds of fields: 0 int (boolean too), 1 long, 2 reference -/
def fg : Nat → Nat → Nat := fun c j => match c with
  | 0 => if j = 1 ∨ j = 2 ∨ j = 3 then 2 else 0
  | 1 => if j = 0 then 2 else 0
  | 2 => if j = 3 then 0 else 2
  | 3 => if j = 8 then 0 else 2
  | 4 => if j = 8 ∨ j = 9 then 0 else 2
  | _ => if j = 4 ∨ j = 7 ∨ j = 10 ∨ j = 18 ∨ j = 20 ∨ j = 24 then 0 else if j = 23 then 1 else 2
def fv (G : GW) (h : HD) (σ : St) (k c j : Nat) : Value := match fg c j with
  | 0 => .int (σ.1 k j)
  | 1 => .long (σ.2 k j)
  | _ => va_rf ((h.2.2 k j).map (fun r => gB G + r))
def wc (G : GW) (h : HD) (σ : St) (k : Nat) : Nat × va_E := (gB G + k, match (h.2.1 k).1 with
  | 0 => .inl (gI G, (h.2.1 k).2, .inl (σ.1 k))
  | 1 => .inl (gJ G, (h.2.1 k).2, .inr (.inl (σ.2 k)))
  | 2 => .inl (gS G, (h.2.1 k).2, .inr (.inr (.inr (.inr (fun j => (h.2.2 k j).map (fun r => gB G + r))))))
  | c + 3 => .inr (c, (List.range (cq c).2.2).map (fv G h σ k c)))
def wls (G : GW) (h : HD) (σ : St) : va_W := (List.range h.1).map (wc G h σ)
/-- a row written anew -/
def ur (σ : St) (k : Nat) (f : Nat → Int32) : St := (fun k' => if k' = k then f else σ.1 k', σ.2)
def uj (σ : St) (k : Nat) (f : Nat → Int64) : St := (σ.1, fun k' => if k' = k then f else σ.2 k')
theorem wls_at {G : GW} {h : HD} {σ : St} {k : Nat} (hk : k < h.1) : (wls G h σ)[k]? = some (wc G h σ k) := by
  simp [wls, hk]
theorem wls_D {G : GW} {h : HD} {σ : St} : va_D (gA G) (wls G h σ) := by
  refine ⟨fun i j p q hi hj e => ?_, fun k q hk => ?_⟩
  · have h1 : i < h.1 := by
      have := (List.getElem?_eq_some_iff.mp hi).1
      simpa [wls] using this
    have h2 : j < h.1 := by
      have := (List.getElem?_eq_some_iff.mp hj).1
      simpa [wls] using this
    rw [wls_at h1] at hi
    rw [wls_at h2] at hj
    have e1 := Option.some.inj hi
    have e2 := Option.some.inj hj
    rw [← e1, ← e2] at e
    simp only [wc] at e
    omega
  · have h1 : k < h.1 := by
      have := (List.getElem?_eq_some_iff.mp hk).1
      simpa [wls] using this
    rw [wls_at h1] at hk
    rw [← Option.some.inj hk]
    show gB G ≤ gB G + k
    omega
/-- a world that differs from another at one place alone -/
theorem wls_set {G : GW} {h h' : HD} {σ σ' : St} {k : Nat} {c : Nat × va_E} (hn : h'.1 = h.1) (hc : wc G h' σ' k = c) (ho : ∀ j, j ≠ k → wc G h' σ' j = wc G h σ j) : (wls G h σ).set k c = wls G h' σ' := by
  apply List.ext_getElem?
  intro j
  rw [List.getElem?_set]
  by_cases hj : k = j
  · subst hj
    by_cases hl : k < h.1
    · simp [wls, hl, hn, hc]
    · simp [wls, hl, hn]
  · rw [if_neg hj]
    simp only [wls, List.getElem?_map, hn]
    by_cases hl : j < h.1
    · simp [List.getElem?_range hl, ho j (fun e => hj e.symm)]
    · simp [hl]
theorem wc_ur {G : GW} {h : HD} {σ : St} {k j : Nat} {f : Nat → Int32} (hj : j ≠ k) : wc G h (ur σ k f) j = wc G h σ j := by
  simp only [wc, ur, if_neg hj]
  congr 1
  split <;> simp [fv, hj]
theorem wc_uj {G : GW} {h : HD} {σ : St} {k j : Nat} {f : Nat → Int64} (hj : j ≠ k) : wc G h (uj σ k f) j = wc G h σ j := by
  simp only [wc, uj, if_neg hj]
  congr 1
  split <;> simp [fv, hj]
theorem wls_arr {G : GW} {h : HD} {σ : St} {k len : Nat} {f : Nat → Int32} (hk : h.2.1 k = (0, len)) : (wls G h σ).set k (gB G + k, .inl (gI G, len, .inl f)) = wls G h (ur σ k f) :=
  wls_set rfl (by simp [wc, hk, ur]) (fun j hj => wc_ur hj)
theorem wls_arl {G : GW} {h : HD} {σ : St} {k len : Nat} {f : Nat → Int64} (hk : h.2.1 k = (1, len)) : (wls G h σ).set k (gB G + k, .inl (gJ G, len, .inr (.inl f))) = wls G h (uj σ k f) :=
  wls_set rfl (by simp [wc, hk, uj]) (fun j hj => wc_uj hj)
theorem wls_fi {G : GW} {h : HD} {σ : St} {k c j : Nat} {v : Int32} (hk : (h.2.1 k).1 = c + 3) (hg : fg c j = 0) : (wls G h σ).set k (gB G + k, .inr (c, ((List.range (cq c).2.2).map (fv G h σ k c)).set j (.int v))) = wls G h (ur σ k (upd (σ.1 k) j v)) := by
  refine wls_set rfl ?_ (fun j hj => wc_ur hj)
  simp only [wc, hk]
  congr 3
  apply List.ext_getElem?
  intro i
  rw [List.getElem?_set]
  by_cases hi : j = i
  · subst hi
    by_cases hl : j < (cq c).2.2
    · simp [hl, fv, hg, ur, upd]
    · simp [hl]
  · rw [if_neg hi]
    have hi' : ¬ i = j := fun e => hi e.symm
    simp only [List.getElem?_map]
    by_cases hl : i < (cq c).2.2
    · simp [List.getElem?_range hl, fv, ur, upd, hi']
    · simp [hl]
theorem wls_fj {G : GW} {h : HD} {σ : St} {k c j : Nat} {v : Int64} (hk : (h.2.1 k).1 = c + 3) (hg : fg c j = 1) : (wls G h σ).set k (gB G + k, .inr (c, ((List.range (cq c).2.2).map (fv G h σ k c)).set j (.long v))) = wls G h (uj σ k (vp_updL (σ.2 k) j v)) := by
  refine wls_set rfl ?_ (fun j hj => wc_uj hj)
  simp only [wc, hk]
  congr 3
  apply List.ext_getElem?
  intro i
  rw [List.getElem?_set]
  by_cases hi : j = i
  · subst hi
    by_cases hl : j < (cq c).2.2
    · simp [hl, fv, hg, uj, vp_updL]
    · simp [hl]
  · rw [if_neg hi]
    have hi' : ¬ i = j := fun e => hi e.symm
    simp only [List.getElem?_map]
    by_cases hl : i < (cq c).2.2
    · simp [List.getElem?_range hl, fv, uj, vp_updL, hi']
    · simp [hl]
def dh (j : Nat) : Value := .int (match j with
  | 0 => 0
  | 1 => 1
  | 2 => 5
  | _ => 23)
/-- what holds of the tables, and of what lies below B, in every state of the run -/
def VS (G : GW) (s : State) : Prop := va_K (gD G) cl0 (gT G) s ∧ va_Nw (.methodLinkNest RX0 41 yX4_isBelow RX4) s ∧ va_Nw (.methodLinkNest RX1 22 yX4_isBelow RX4) s ∧ va_Nw (.methodLinkNest RX3 79 yX4_isBelow RX4) s ∧ va_AO "OwnWeather$Sheet" s ∧
  va_Z RX4 "DIGEST_HOURS" "[I" (.ref (gU G)) (gA G) s (gH G) ∧ va_T .int (gU G) 4 dh (gA G) s (gH G) ∧ va_X (gX G).1 (gX G).2.1 (gX G).2.2 s (gH G) ∧ (gX G).1 < gB G ∧ (gH G).size = gB G
theorem VS.warm {G : GW} {s U : State} (hW : s.WarmedH U.vm) (h : VS G s) : VS G U := by
  obtain ⟨h1, h2, h3, h4, h5, h6, h7, h8, h9⟩ := h
  exact ⟨va_K.moved hW.alike h1, va_Nw.warmM hW h2, va_Nw.warmM hW h3, va_Nw.warmM hW h4, va_AO.moved hW.alike h5, va_Z.moved hW.alike h6, va_T.moved hW.alike h7, va_X.moved hW.alike h8, h9⟩
theorem VS.same {G : GW} {s U : State} (hv : s.vm = U.vm) (h : VS G s) : VS G U := by
  obtain ⟨h1, h2, h3, h4, h5, h6, h7, h8, h9⟩ := h
  have hA : s.vm.Alike U.vm := by rw [hv]; exact Vm.Alike.refl _
  exact ⟨va_K.moved hA h1, va_Nw.same rfl hv h2, va_Nw.same rfl hv h3, va_Nw.same rfl hv h4, va_AO.moved hA h5, va_Z.moved hA h6, va_T.moved hA h7, va_X.moved hA h8, h9⟩
/-- a method's own start -/
def Cx (G : GW) (M : MR) (p : Program) (s : State) (m : MethodId) (args : Array Value) (meth : Method) (c : Code) : Prop :=
  p.tables.exec = Jvm.exec ∧ c.code = M.2.1 ∧ c.maxLocals = M.2.2.1 ∧ meth.sig.returnType = M.2.2.2 ∧ meth.locks = false ∧ meth.name = M.1.name ∧ s.vm.findClass M.1.cls = some m.cls ∧ (∀ w ∈ gt, w.before args s = true) ∧ VS G s ∧ (gB G ≤ s.heap.size ∧ ∀ q, q < gB G → s.heap[q]? = (gH G)[q]?)
/-- the locals: what is known of them -/
def Rl (L : List (Option Value)) (ls : Array Slot) (nL : Nat) : Prop := ls.size = nL ∧ lv_wf ls ∧ ∀ (i : Nat) (v : Value), L[i]? = some (some v) → ls[i]? = some (.val v)
def al (L : List (Option Value)) : List (Nat × Value) := (List.range L.length).filterMap (fun i => (L[i]?).join.map (fun v => (i, v)))
theorem al_mem {L : List (Option Value)} {j : Nat} {w : Value} : (j, w) ∈ al L ↔ L[j]? = some (some w) := by
  simp only [al, List.mem_filterMap, List.mem_range]
  constructor
  · rintro ⟨i, hi, h⟩
    cases hL : L[i]? with
    | none => rw [hL] at h; cases h
    | some o =>
      cases o with
      | none => rw [hL] at h; cases h
      | some v =>
        rw [hL] at h
        have e := Option.some.inj h
        injection e with e1 e2
        subst e1; subst e2
        exact hL
  · intro h
    exact ⟨j, (List.getElem?_eq_some_iff.mp h).1, by rw [h]; rfl⟩
theorem Rl.has {L : List (Option Value)} {ls : Array Slot} {nL : Nat} (h : Rl L ls nL) : lv_has ls nL (al L) := ⟨h.1, h.2.1, fun q hq => h.2.2 q.1 q.2 (al_mem.mp hq)⟩
def nc2 : Option Value → Bool
  | some (.long _) => false
  | some (.double _) => false
  | _ => true
theorem nc2_cat {o : Option Value} {v : Value} (h : nc2 o = true) (e : o = some v) : ¬ v.category = 2 := by
  subst e
  cases v <;> simp_all [nc2, Value.category]
theorem Rl.st1 {L L' : List (Option Value)} {ls' : Array Slot} {nL i : Nat} {v : Value} (hL : L.set i (some v) = L') (hp : ∀ o, L[i - 1]? = some o → nc2 o = true ∨ i = 0) (h : lv_has ls' nL ((i, v) :: (al L).filter (fun q => !(q.1 == i) && !(q.1 + 1 == i && q.2.category == 2)))) : Rl L' ls' nL := by
  refine ⟨h.1, h.2.1, fun j w hj => ?_⟩
  subst hL
  rw [List.getElem?_set] at hj
  by_cases hij : i = j
  · subst hij
    rw [if_pos rfl] at hj
    split at hj
    · injection hj with e; injection e with e; subst e
      exact h.2.2 (i, v) List.mem_cons_self
    · cases hj
  · rw [if_neg hij] at hj
    refine h.2.2 (j, w) (List.mem_cons_of_mem _ (List.mem_filter.mpr ⟨al_mem.mpr hj, ?_⟩))
    have h1 : (j == i) = false := by simp; exact fun e => hij e.symm
    have h2 : (j + 1 == i && w.category == 2) = false := by
      by_cases e : j + 1 = i
      · have := hp (some w) (by rw [← e]; exact hj)
        rcases this with q | q
        · have hc := nc2_cat q rfl
          simp [hc]
        · omega
      · simp [e]
    simp [h1, h2]
theorem Rl.st2 {L L' : List (Option Value)} {ls' : Array Slot} {nL i : Nat} {v : Value} (hL : (L.set i (some v)).set (i + 1) none = L') (hp : ∀ o, L[i - 1]? = some o → nc2 o = true ∨ i = 0) (h : lv_has ls' nL ((i, v) :: (al L).filter (fun q => !(q.1 == i) && (!(q.1 == i + 1) && !(q.1 + 1 == i && q.2.category == 2))))) : Rl L' ls' nL := by
  refine ⟨h.1, h.2.1, fun j w hj => ?_⟩
  subst hL
  rw [List.getElem?_set] at hj
  by_cases hij1 : i + 1 = j
  · rw [if_pos hij1] at hj
    split at hj <;> cases hj
  rw [if_neg hij1] at hj
  rw [List.getElem?_set] at hj
  by_cases hij : i = j
  · subst hij
    rw [if_pos rfl] at hj
    split at hj
    · injection hj with e; injection e with e; subst e
      exact h.2.2 (i, v) List.mem_cons_self
    · cases hj
  · rw [if_neg hij] at hj
    refine h.2.2 (j, w) (List.mem_cons_of_mem _ (List.mem_filter.mpr ⟨al_mem.mpr hj, ?_⟩))
    have h1 : (j == i) = false := by simp; exact fun e => hij e.symm
    have h3 : (j == i + 1) = false := by simp; exact fun e => hij1 e.symm
    have h2 : (j + 1 == i && w.category == 2) = false := by
      by_cases e : j + 1 = i
      · have := hp (some w) (by rw [← e]; exact hj)
        rcases this with q | q
        · have hc := nc2_cat q rfl
          simp [hc]
        · omega
      · simp [e]
    simp [h1, h2, h3]
/-- how a method must end -/
def QQ (G : GW) (Q : Option Value → HD → St → Prop) : Array Value → State → Outcome → State → Prop := fun _ st o t =>
  (∃ (v : Option Value) (h : HD) (σ : St), o = .returned v ∧ Q v h σ ∧ va_P (gD G) cl0 (wls G h σ) t.heap ∧ VS G t) ∧ va_F (gA G) st t
/-- the machine, in a frame of method M at pc with locals L and operands S, in the world (h, σ), comes to the method's end with Q -/
def A (G : GW) (rm : Room) (M : MR) (kw mw : Nat × Nat) (pc : Nat) (L : List (Option Value)) (S : List Value) (h : HD) (σ : St) (Q : Option Value → HD → St → Prop) : Prop :=
  ∀ (p : Program) (e : Env) (s : State) (m : MethodId) (args : Array Value) (below : List Frame) (meth : Method) (c : Code) (ls : Array Slot) (H : Heap) (locs : List Loc),
    Cx G M p s m args meth c → Rl L ls M.2.2.1 → va_P (gD G) cl0 (wls G h σ) H → s.heap.size + kw.1 = gB G + h.1 → va_S (gA G) s.heap H locs →
    W p (gl G) e rm s m args below meth c H locs kw.1 kw.2 (MQ below (QQ G Q) args s mw.1 mw.2 (gA G)) (F0 m pc ls S)
/-- a method's contract: called with As in the world (h, σ) it ends with Q -/
def C (G : GW) (rm : Room) (M : MR) (mw : Nat × Nat) (As : List Value) (h : HD) (σ : St) (Q : Option Value → HD → St → Prop) : Prop :=
  Met (gl G) M.1 (wds M) rm (va_Pc As (fun U => U.heap.size = gB G + h.1 ∧ va_P (gD G) cl0 (wls G h σ) U.heap ∧ VS G U ∧ (∀ q, q < gB G → U.heap[q]? = (gH G)[q]?))) (QQ G Q) mw.1 mw.2 (gA G)
def entL : List Value → List (Option Value)
  | [] => []
  | .long x :: vs => some (.long x) :: none :: entL vs
  | .double x :: vs => some (.double x) :: none :: entL vs
  | v :: vs => some v :: entL vs
def ent (n : Nat) (As : List Value) : List (Option Value) := entL As ++ List.replicate (n - (entL As).length) none
theorem entL_mem : ∀ (As : List Value) (o i : Nat) (v : Value), (entL As)[i]? = some (some v) → (o + i, v) ∈ lv_args o As := by
  intro As
  induction As with
  | nil => intro o i v h; simp [entL] at h
  | cons a As ih =>
    intro o i v h
    cases a with
    | long x =>
      rcases i with _ | _ | i
      · simp [entL] at h; subst h; simp [lv_args]
      · simp [entL] at h
      · simp only [entL, List.getElem?_cons_succ] at h
        have := ih (o + 2) i v h
        simp only [lv_args, Value.category, if_true]
        exact List.mem_cons_of_mem _ (by rw [show o + (i + 1 + 1) = o + 2 + i by omega]; exact this)
    | double x =>
      rcases i with _ | _ | i
      · simp [entL] at h; subst h; simp [lv_args]
      · simp [entL] at h
      · simp only [entL, List.getElem?_cons_succ] at h
        have := ih (o + 2) i v h
        simp only [lv_args, Value.category, if_true]
        exact List.mem_cons_of_mem _ (by rw [show o + (i + 1 + 1) = o + 2 + i by omega]; exact this)
    | _ =>
      rcases i with _ | i
      · simp [entL] at h; subst h; simp [lv_args]
      · simp only [entL, List.getElem?_cons_succ] at h
        have := ih (o + 1) i v h
        rw [show o + (i + 1) = o + 1 + i by omega]
        exact List.mem_cons_of_mem (o, _) this
theorem ent_Rl {n : Nat} {As : List Value} {L : List (Option Value)} (hL : ent n As = L) (hf : (lg_sl As).length ≤ n) : Rl L ((lg_sl As ++ List.replicate (n - (lg_sl As).length) Slot.unset).toArray) n := by
  have h := lv_entry As hf
  refine ⟨h.1, h.2.1, fun i v hi => ?_⟩
  subst hL
  unfold ent at hi
  by_cases hl : i < (entL As).length
  · rw [List.getElem?_append_left hl] at hi
    have := entL_mem As 0 i v hi
    rw [Nat.zero_add] at this
    exact h.2.2 (i, v) this
  · rw [List.getElem?_append_right (by omega)] at hi
    have := List.mem_of_getElem? hi
    simp at this
theorem C.of {G : GW} {rm : Room} {M : MR} {mw : Nat × Nat} {As : List Value} {h : HD} {σ : St} {Q : Option Value → HD → St → Prop} {L : List (Option Value)} (hpl : plainName M.1.cls = true) (hL : ent M.2.2.1 As = L) (hf : (lg_sl As).length ≤ M.2.2.1) (body : A G rm M (0, 0) mw 0 L [] h σ Q) : C G rm M mw As h σ Q := by
  refine Met.ofW (cc := M.2.1) (maxL := M.2.2.1) (ret := M.2.2.2) hpl rfl ?_
  intro p e s m args below meth c s₁ B hml hv
  obtain ⟨rfl, hz, hP, hV, hq⟩ := hv
  have C0 : Cx G M p s m As.toArray meth c := ⟨B.exec, B.bytes, hml, B.returns, B.notSynchronized, (name_of_methodNamed B.named B.method).1, findClass_of_methodNamed B.named, fun w hw => atoms_spec (ws := wds M) B.pre w (List.mem_cons_of_mem _ hw), hV, by omega, hq⟩
  rw [lg_entry_eq]
  exact body p e s m As.toArray below meth c _ s.heap [] C0 (ent_Rl hL hf) hP hz va_S.rf
theorem size_of {G : GW} {h : HD} {σ : St} {p : Program} {l : Launch} {e : Env} {rm : Room} {s T : State} {m : MethodId} {args : Array Value} {below : List Frame} {meth : Method} {c : Code} {H : Heap} {locs : List Loc} {k w : Nat} (X : Stand p l e rm s m args below meth c T locs k w) (hT : T.heap = H) (hP : va_P (gD G) cl0 (wls G h σ) H) (hz : s.heap.size + k = gB G + h.1) (hS : va_S (gA G) s.heap H locs) (hB : gB G ≤ s.heap.size) : H.size = gB G + h.1 := by
  have h1 := X.heapSize
  rw [hT] at h1
  rcases Nat.eq_zero_or_pos h.1 with h0 | h0
  · have := hS.1
    omega
  · have h2 := (hP (h.1 - 1) _ (wls_at (by omega))).lt
    have h3 : (wc G h σ (h.1 - 1)).1 = gB G + (h.1 - 1) := rfl
    rw [h3] at h2
    omega
