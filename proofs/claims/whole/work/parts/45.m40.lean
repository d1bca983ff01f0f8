def hN (h : HD) (kd : Nat × Nat) : HD := (h.1 + 1, fun k => if k = h.1 then kd else h.2.1 k, fun k j => if k = h.1 then none else h.2.2 k j)
theorem wls_push {G : GW} {h h' : HD} {σ σ' : St} {c : Nat × va_E} (hn : h'.1 = h.1 + 1) (hc : wc G h' σ' h.1 = c) (ho : ∀ j, j < h.1 → wc G h' σ' j = wc G h σ j) : wls G h' σ' = wls G h σ ++ [c] := by
  unfold wls
  rw [hn, List.range_succ, List.map_append]
  congr 1
  · exact List.map_congr_left (fun j hj => ho j (List.mem_range.mp hj))
  · simp [hc]
theorem wc_old {G : GW} {h : HD} {kd : Nat × Nat} {σ σ' : St} {j : Nat} (hj : j < h.1) (h1 : σ'.1 j = σ.1 j) (h2 : σ'.2 j = σ.2 j) : wc G (hN h kd) σ' j = wc G h σ j := by
  have e : ¬ j = h.1 := by omega
  simp only [wc, hN, e, if_false, h1, h2]
  congr 1
  split <;> simp [fv, e, h1, h2]
theorem ac_i : Cond.arrayClass .int ∈ gt := gt_o1 51 (by rfl) rfl
theorem A.newI {G : GW} {rm : Room} {M : MR} {kw mw : Nat × Nat} {pc q : Nat} {L : List (Option Value)} {S : List Value} {h : HD} {σ : St} {Q : Option Value → HD → St → Prop} {N : Nat} (hd : Ix M pc q (.newarray .int) 2) (hN9 : N ≤ 1000) (hc : kw.1 + 1 ≤ rm.cells) (hs : kw.2 + N ≤ rm.slots) (kk : A G rm M (kw.1 + 1, kw.2 + N) mw q L (rf G h.1 :: S) (hN h (0, N)) (ur σ h.1 (fun _ => 0)) Q) : A G rm M kw mw pc L (.int (nI N) :: S) h σ Q := by
  intro p e s m args below meth c ls H locs C hl hP hz hS T hT X
  obtain ⟨hd, rfl⟩ := hd
  have hts := C.2.2.2.2.2.2.2.1
  have hV := C.2.2.2.2.2.2.2.2.1
  have hsz := size_of X hT hP hz hS C.2.2.2.2.2.2.2.2.2.1
  refine (va_newaK (N := N) (atype := .int) C.1 C.2.1 (hts _ ac_i) (g := F0 m pc ls (.int (nI N) :: S)) rfl hd rfl (nI_nn (by omega)) (nI_clamp (by omega)) (by show N * 4 ≤ _; omega) hc hs hsz (fun H1 cA e1 z1 o1 hAr hNm => ?_)) T hT X
  have hcA : cA = gI G := Option.some.inj (hNm.symm.trans (hV.1.2 0 (gI G, .int) rfl).2)
  subst hcA
  have hk : ∀ (k : Nat) (x : Nat × va_E), (wls G h σ)[k]? = some x → H1[x.1]? = H[x.1]? := fun k x hx => o1 x.1 (by have := (hP k x hx).lt; omega)
  have hw : wls G (hN h (0, N)) (ur σ h.1 (fun _ => 0)) = wls G h σ ++ [(gB G + h.1, .inl (gI G, N, .inl (fun _ => 0)))] := wls_push rfl (by simp [wc, hN, ur]) (fun j hj => wc_old hj (ur_n (by omega)) rfl)
  refine kk p e s m args below meth c ls H1 locs C hl ?_ (by show s.heap.size + (kw.1 + 1) = gB G + (h.1 + 1); omega) ⟨by have := hS.1; omega, fun x a1 a2 => (o1 x (by have := hS.1; omega)).trans (hS.2.1 x a1 a2), hS.2.2⟩
  rw [hw]
  refine (hP.kept hk).app (fun k x hx => ?_)
  have hz1 : k < 1 := (List.getElem?_eq_some_iff.mp hx).1
  rw [show k = 0 by omega] at hx
  cases hx
  exact e1
theorem ac_j : Cond.arrayClass .long ∈ gt := gt_o3 217 (by rfl) rfl
theorem A.newJ {G : GW} {rm : Room} {M : MR} {kw mw : Nat × Nat} {pc q : Nat} {L : List (Option Value)} {S : List Value} {h : HD} {σ : St} {Q : Option Value → HD → St → Prop} {N : Nat} (hd : Ix M pc q (.newarray .long) 2) (hN9 : N ≤ 1000) (hc : kw.1 + 1 ≤ rm.cells) (hs : kw.2 + N ≤ rm.slots) (kk : A G rm M (kw.1 + 1, kw.2 + N) mw q L (rf G h.1 :: S) (hN h (1, N)) (uj σ h.1 (fun _ => 0)) Q) : A G rm M kw mw pc L (.int (nI N) :: S) h σ Q := by
  intro p e s m args below meth c ls H locs C hl hP hz hS T hT X
  obtain ⟨hd, rfl⟩ := hd
  have hts := C.2.2.2.2.2.2.2.1
  have hV := C.2.2.2.2.2.2.2.2.1
  have hsz := size_of X hT hP hz hS C.2.2.2.2.2.2.2.2.2.1
  refine (va_newaK (N := N) (atype := .long) C.1 C.2.1 (hts _ ac_j) (g := F0 m pc ls (.int (nI N) :: S)) rfl hd rfl (nI_nn (by omega)) (nI_clamp (by omega)) (by show N * 8 ≤ _; omega) hc hs hsz (fun H1 cA e1 z1 o1 hAr hNm => ?_)) T hT X
  have hcA : cA = gJ G := Option.some.inj (hNm.symm.trans (hV.1.2 1 (gJ G, .long) rfl).2)
  subst hcA
  have hk : ∀ (k : Nat) (x : Nat × va_E), (wls G h σ)[k]? = some x → H1[x.1]? = H[x.1]? := fun k x hx => o1 x.1 (by have := (hP k x hx).lt; omega)
  have hw : wls G (hN h (1, N)) (uj σ h.1 (fun _ => 0)) = wls G h σ ++ [(gB G + h.1, .inl (gJ G, N, .inr (.inl (fun _ => 0))))] := wls_push rfl (by simp [wc, hN, uj]) (fun j hj => wc_old hj rfl (uj_n (by omega)))
  refine kk p e s m args below meth c ls H1 locs C hl ?_ (by show s.heap.size + (kw.1 + 1) = gB G + (h.1 + 1); omega) ⟨by have := hS.1; omega, fun x a1 a2 => (o1 x (by have := hS.1; omega)).trans (hS.2.1 x a1 a2), hS.2.2⟩
  rw [hw]
  refine (hP.kept hk).app (fun k x hx => ?_)
  have hz1 : k < 1 := (List.getElem?_eq_some_iff.mp hx).1
  rw [show k = 0 by omega] at hx
  cases hx
  exact e1
theorem cl_q : Cond.classLink RX4 36 "OwnWeather$Sheet" ∈ gt := gt_o1 79 (by rfl) rfl
theorem A.newQ {G : GW} {rm : Room} {M : MR} {kw mw : Nat × Nat} {pc q : Nat} {L : List (Option Value)} {S : List Value} {h : HD} {σ : St} {Q : Option Value → HD → St → Prop} {N idx : Nat} (hd : Ix M pc q (.anewarray idx) 3) (hcl : Cond.classLink M.1.cls idx "OwnWeather$Sheet" ∈ gt) (hN9 : N ≤ 1000) (hc : kw.1 + 1 ≤ rm.cells) (hs : kw.2 + N ≤ rm.slots) (kk : A G rm M (kw.1 + 1, kw.2 + N) mw q L (rf G h.1 :: S) (hN h (2, N)) σ Q) : A G rm M kw mw pc L (.int (nI N) :: S) h σ Q := by
  intro p e s m args below meth c ls H locs C hl hP hz hS T hT X
  obtain ⟨hd, rfl⟩ := hd
  have hts := C.2.2.2.2.2.2.2.1
  have hV := C.2.2.2.2.2.2.2.2.1
  have hsz := size_of X hT hP hz hS C.2.2.2.2.2.2.2.2.2.1
  have hcN := nI_clamp (n := N) (by omega)
  refine (W.anew C.1 C.2.1 C.2.2.2.2.2.2.1 (hts _ hcl) (va_AO.use hV.2.2.2.2.1) (g := F0 m pc ls (.int (nI N) :: S)) rfl hd rfl (nI_nn (by omega)) (by rw [hcN]; omega) hc (by rw [hcN]; exact hs) (fun cA kA comp f1 f2 f3 f4 => ?_)) T hT X
  obtain ⟨kA', comp', u1, u2, u3, u4⟩ := (hV.1.2 2 (gS G, .object "OwnWeather$Sheet") rfl).2
  have hcA : cA = gS G := Option.some.inj (f1.symm.trans u4)
  subst hcA
  rw [hcN, hsz]
  generalize hH1 : H.push ({ cls := gS G, slots := Array.replicate N .null, vm := .none } : Cell) = H1
  have z1 : H1.size = H.size + 1 := by rw [← hH1, Array.size_push]
  have e1 : H1[H.size]? = some (arrV (gS G) N (fun _ => .null)) := by rw [← hH1, Array.getElem?_push_size, ← arrV_new]
  have o1 : ∀ q : Nat, q < H.size → H1[q]? = H[q]? := fun q hq => by rw [← hH1, Array.getElem?_push, if_neg (Nat.ne_of_lt hq)]
  have hk : ∀ (k : Nat) (x : Nat × va_E), (wls G h σ)[k]? = some x → H1[x.1]? = H[x.1]? := fun k x hx => o1 x.1 (hP k x hx).lt
  have hw : wls G (hN h (2, N)) σ = wls G h σ ++ [(gB G + h.1, .inl (gS G, N, .inr (.inr (.inr (.inr (fun _ => none))))))] := wls_push rfl (by simp [wc, hN]) (fun j hj => wc_old hj rfl rfl)
  refine kk p e s m args below meth c ls H1 locs C hl ?_ (by show s.heap.size + (kw.1 + 1) = gB G + (h.1 + 1); omega) ⟨by have := hS.1; omega, fun x a1 a2 => (o1 x (by have := hS.1; omega)).trans (hS.2.1 x a1 a2), hS.2.2⟩
  rw [hw]
  refine (hP.kept hk).app (fun k x hx => ?_)
  have hz1 : k < 1 := (List.getElem?_eq_some_iff.mp hx).1
  rw [show k = 0 by omega] at hx
  cases hx
  show H1[gB G + h.1]? = some (vp_cell _ _)
  rw [vp_cell_q, ← hsz]
  exact e1
def zs (σ : St) (k : Nat) : St := (fun k' => if k' = k then fun _ => 0 else σ.1 k', fun k' => if k' = k then fun _ => 0 else σ.2 k')
def dv (n : Nat) : Value := match n with
  | 0 => .int 0
  | 1 => .long 0
  | _ => .null
theorem A.newC {G : GW} {rm : Room} {M : MR} {kw mw : Nat × Nat} {pc q : Nat} {L : List (Option Value)} {S : List Value} {h : HD} {σ : St} {Q : Option Value → HD → St → Prop} {ci idx : Nat} (hd : Ix M pc q (.new idx) 3) (hci : ci < 6) (hcl : Cond.classLink M.1.cls idx (cq ci).1 ∈ gt) (hins : Cond.instantiable (cq ci).1 (cq ci).2.2 ∈ gt) (hini : Cond.initialized (cq ci).1 ∈ gt) (hdf : ∀ j, j < (cq ci).2.2 → ∀ t, parseFieldDescriptor ((cq ci).2.1 j).2.2.1 = some t → defaultValue t = dv (fg ci j)) (hc : kw.1 + 1 ≤ rm.cells) (hs : kw.2 + (cq ci).2.2 ≤ rm.slots) (kk : A G rm M (kw.1 + 1, kw.2 + (cq ci).2.2) mw q L (rf G h.1 :: S) (hN h (ci + 3, 0)) (zs σ h.1) Q) : A G rm M kw mw pc L S h σ Q := by
  intro p e s m args below meth c ls H locs C hl hP hz hS T hT X
  obtain ⟨hd, rfl⟩ := hd
  have hts := C.2.2.2.2.2.2.2.1
  have hV := C.2.2.2.2.2.2.2.2.1
  have hsz := size_of X hT hP hz hS C.2.2.2.2.2.2.2.2.2.1
  obtain ⟨h1, h2, ⟨ty, h3⟩, h4⟩ := gw_all hci
  have hKn := hV.1.1 ci _ h1
  refine (W.newcK C.1 C.2.1 C.2.2.2.2.2.2.1 (hts _ hcl) (hts _ hins) (hts _ hini) (g := F0 m pc ls S) rfl hd hc hs hKn.2.1 hsz (fun H1 kC hkC e1 z1 o1 => ?_)) T hT X
  have hk : ∀ (k : Nat) (x : Nat × va_E), (wls G h σ)[k]? = some x → H1[x.1]? = H[x.1]? := fun k x hx => o1 x.1 (by have := (hP k x hx).lt; omega)
  have hw : wls G (hN h (ci + 3, 0)) (zs σ h.1) = wls G h σ ++ [(gB G + h.1, .inr (ci, (List.range (cq ci).2.2).map (fv G (hN h (ci + 3, 0)) (zs σ h.1) h.1 ci)))] := wls_push rfl (by simp [wc, hN]) (fun j hj => wc_old hj (by simp [zs, show ¬ j = h.1 by omega]) (by simp [zs, show ¬ j = h.1 by omega]))
  refine kk p e s m args below meth c ls H1 locs C hl ?_ (by show s.heap.size + (kw.1 + 1) = gB G + (h.1 + 1); omega) ⟨by have := hS.1; omega, fun x a1 a2 => (o1 x (by have := hS.1; omega)).trans (hS.2.1 x a1 a2), hS.2.2⟩
  rw [hw]
  refine (hP.kept hk).app (fun k x hx => ?_)
  have hz1 : k < 1 := (List.getElem?_eq_some_iff.mp hx).1
  rw [show k = 0 by omega] at hx
  cases hx
  refine ⟨_, h1, (u_born ty hts h2 hKn hkC e1 h3).to (fun j hj => ?_)⟩
  rw [hdf j hj (ty j) (h3 j hj)]
  unfold vp_V
  simp only [List.getElem?_map, List.getElem?_range hj]
  unfold fv dv
  split <;> simp_all [zs, hN, va_rf]
theorem ob_i : Cond.instanceMethod Lib.objectInit ∈ gt := gt_o1 16 (by rfl) rfl
theorem ob_c : Cond.code Lib.objectInit ⟨#[0xb1]⟩ 1 none ∈ gt := gt_o1 17 (by rfl) rfl
theorem A.obj {G : GW} {rm : Room} {M : MR} {kw mw : Nat × Nat} {pc q k idx : Nat} {L : List (Option Value)} {S : List Value} {h : HD} {σ : St} {Q : Option Value → HD → St → Prop} (hd : Ix M pc q (.invokespecial idx) 3) (hlk : Cond.methodLink M.1.cls idx Lib.objectInit ∈ gt) (hr : 1 ≤ rm.frames ∧ (S.map (fun v => v.category)).sum + 12 ≤ rm.locals) (kk : A G rm M kw mw q L S h σ Q) : A G rm M kw mw pc L (rf G k :: S) h σ Q := by
  intro p e s m args below meth c ls H locs C hl hP hz hS
  obtain ⟨hd, rfl⟩ := hd
  have hts := C.2.2.2.2.2.2.2.1
  exact W.objInit (g := F0 m pc ls (rf G k :: S)) C.1 C.2.1 C.2.2.2.2.2.2.1 (hts _ hlk) (hts _ ob_i) (hts _ ob_c) rfl (by rw [C.2.2.1]; exact hl.1) rfl hd hr.1 (by show 2 * 0 + _ + 12 ≤ _; have := hr.2; omega) (kk p e s m args below meth c ls H locs C hl hP hz hS)
theorem wls_qr {G : GW} {h : HD} {σ : St} {k n j r : Nat} (hk : h.2.1 k = (2, n)) : (wls G h σ).set k (gB G + k, .inl (gS G, n, .inr (.inr (.inr (.inr (va_up (fun i => (h.2.2 k i).map (fun r => gB G + r)) j (some (gB G + r)))))))) = wls G (uR h k j r) σ := by
  refine wls_set rfl ?_ (fun i hi => wc_uR hi)
  simp only [wc, uR, hk]
  congr 3
  refine congrArg (fun z => (n, Sum.inr (Sum.inr (Sum.inr (Sum.inr z))))) ?_
  funext i
  unfold va_up
  by_cases e : i = j
  · simp [e]
  · simp [e]
theorem A.aast {G : GW} {rm : Room} {M : MR} {kw mw : Nat × Nat} {pc q k r n j : Nat} {L : List (Option Value)} {S : List Value} {h : HD} {σ : St} {Q : Option Value → HD → St → Prop} (hd : Ix M pc q .aastore 1) (hk : Kq h k n) (hr : Ko h r 1) (hj : j < n) (hn : n < 1000) (kk : A G rm M kw mw q L S (uR h k j r) σ Q) : A G rm M kw mw pc L (rf G r :: .int (nI j) :: rf G k :: S) h σ Q := by
  intro p e s m args below meth c ls H locs C hl hP hz hS
  obtain ⟨hd, rfl⟩ := hd
  have hc := nI_clamp (n := j) (by omega)
  obtain ⟨h1, -, -, -⟩ := gw_all (c := 1) (by omega)
  refine va_astq C.1 C.2.1 C.2.2.2.2.2.2.2.2.1.1 hP wls_D hS k 2 r 1 (wls_qa hk) rfl (wls_obj hr) h1 (by
    intro z
    rcases z with z | z
    · exact nI_nn (by omega) z
    · rw [hc] at z; omega) hd (fun H1 locs1 hP1 _ hS1 => ?_)
  rw [hc, wls_qr hk.2] at hP1
  exact kk p e s m args below meth c ls H1 locs1 C hl hP1 hz hS1
