/-! ===== calls ===== -/
theorem wds_good {M : MR} (h : Cond.code M.1 M.2.1 M.2.2.1 M.2.2.2 ∈ gt) : GoodIn gt (wds M) := by
  intro w hw
  have hm : w ∈ gt := by
    rcases List.mem_cons.mp hw with e | e
    · rw [e]; exact h
    · exact e
  exact ⟨hm, good_of_word (gt_good w hm)⟩
section
variable {G : GW} {rm rm' : Room} {M M' : MR} {kw mw mw' : Nat × Nat} {pc q t n idx : Nat} {L L' : List (Option Value)} {S S0 As : List Value} {h : HD} {σ : St} {Q Q' : Option Value → HD → St → Prop}
/-- what a call needs of the rooms -/
def Rm (rm rm' : Room) (M' : MR) (kw mw' : Nat × Nat) : Prop := rm'.cells = mw'.1 ∧ rm'.slots = mw'.2 ∧ rm'.frames + 1 ≤ rm.frames ∧ 8 + (M'.2.2.1 + 11) + rm'.locals ≤ rm.locals ∧ kw.1 + mw'.1 ≤ rm.cells ∧ kw.2 + mw'.2 ≤ rm.slots
theorem C.blind {B : State → Prop} (hB : ∀ U U' : State, U.vm = U'.vm → U.heap = U'.heap → B U → B U') : FrameBlind (va_Pc As B) := by
  intro a U g mk hq
  exact ⟨hq.1, hB U _ rfl rfl hq.2⟩
theorem C.pre {p : Program} {l : Launch} {e : Env} {s T : State} {m : MethodId} {args : Array Value} {below : List Frame} {meth : Method} {c : Code} {H : Heap} {locs : List Loc} {k w : Nat} (C0 : Cx G M p s m args meth c) (X : Stand p l e rm s m args below meth c T locs k w) (hT : T.heap = H) (hP : va_P (gD G) cl0 (wls G h σ) H) (hz : s.heap.size + k = gB G + h.1) (hS : va_S (gA G) s.heap H locs) : PreS s H (va_Pc As (fun U => U.heap.size = gB G + h.1 ∧ va_P (gD G) cl0 (wls G h σ) U.heap ∧ VS G U ∧ (∀ q, q < gB G → U.heap[q]? = (gH G)[q]?))) As := by
  have hsz := size_of X hT hP hz hS C0.2.2.2.2.2.2.2.2.2.1
  refine ⟨C.blind (fun U U' hv hh hb => ?_), fun U hU hW => ⟨rfl, by rw [hU]; exact hsz, by rw [hU]; exact hP, VS.warm hW C0.2.2.2.2.2.2.2.2.1, fun q hq => ?_⟩⟩
  · obtain ⟨b1, b2, b3, b4⟩ := hb
    exact ⟨by rw [← hh]; exact b1, by rw [← hh]; exact b2, VS.same hv b3, fun q hq => by rw [← hh]; exact b4 q hq⟩
  · rw [hU, hS.2.1 q (Nat.lt_of_lt_of_le hq C0.2.2.2.2.2.2.2.2.2.1) (Nat.not_le.mpr hq)]
    exact C0.2.2.2.2.2.2.2.2.2.2 q hq
/-- behind a call -/
theorem A.behind {p : Program} {e : Env} {s T : State} {m : MethodId} {args : Array Value} {below : List Frame} {meth : Method} {c : Code} {H : Heap} {locs : List Loc} {ls : Array Slot} {a : Array Value} (C0 : Cx G M p s m args meth c) (hl : Rl L ls M.2.2.1) (hz : s.heap.size + kw.1 = gB G + h.1) (hS : va_S (gA G) s.heap H locs)
    (hr : va_Run p (gl G) e rm s m args below meth c H locs kw.1 kw.2 mw'.1 mw'.2 (F0 m pc ls S0) S (QQ G Q' a) (gA G)) (hq3 : pc + 3 = q) (hT : T.heap = H) (X : Stand p (gl G) e rm s m args below meth c T locs kw.1 kw.2)
    (kk : ∀ v h' σ', Q' v h' σ' → h'.1 = h.1 + mw'.1 ∧ A G rm M (kw.1 + mw'.1, kw.2 + mw'.2) mw q L (v.toList ++ S) h' σ' Q) : ∃ t, Steps p.tables e below (T.setTop (F0 m pc ls S0)) t ∧ MQ below (QQ G Q) args s mw.1 mw.2 (gA G) t := by
  obtain ⟨v, st₀, t, T', Lc, h0, X', hL, e1, e2, ⟨⟨v', h', σ', hv, hq, hP', hV'⟩, hF⟩, st⟩ := hr T hT X
  cases hv
  obtain ⟨hn, ka⟩ := kk v h' σ' hq
  have hS' : va_S (gA G) s.heap T'.heap (locs ++ Lc) := by
    refine ⟨?_, fun x h1 h2 => ?_, fun x hx => ?_⟩
    · have := hF.1
      rw [h0] at this
      rw [e1]
      exact Nat.le_trans hS.1 this
    · have h3 : x < st₀.heap.size := by rw [h0]; exact Nat.lt_of_lt_of_le h1 hS.1
      rw [e1, hF.2 x h3 h2, h0]
      exact hS.2.1 x h1 h2
    · rcases List.mem_append.mp hx with h1 | h1
      · exact hS.2.2 x h1
      · exact hL x h1
  subst hq3
  obtain ⟨t2, a1, b1⟩ := ka p e s m args below meth c ls T'.heap (locs ++ Lc) C0 hl (by rw [e1]; exact hP') (by show s.heap.size + (kw.1 + mw'.1) = _; rw [hn]; omega) hS' T' rfl X'
  exact ⟨t2, st t2 a1, b1⟩
theorem A.callS (hd : Ix M pc q (.invokestatic idx) 3) (ok : OkS M' n) (hlk : Cond.methodLink M.1.cls idx M'.1 ∈ gt) (hn : As.length = n) (hst : S0 = As.reverse ++ S) (hcat : (S.map (fun v => v.category)).sum ≤ 8) (hr : Rm rm rm' M' kw mw') (hc : C G rm' M' mw' As h σ Q') (kk : ∀ v h' σ', Q' v h' σ' → h'.1 = h.1 + mw'.1 ∧ A G rm M (kw.1 + mw'.1, kw.2 + mw'.2) mw q L (v.toList ++ S) h' σ' Q) : A G rm M kw mw pc L S0 h σ Q := by
  intro p e s m args below meth c ls H locs C0 hl hP hz hS T hT X
  obtain ⟨hd, hq3⟩ := hd
  obtain ⟨r1, r2, r3, r4, r5, r6⟩ := hr
  have hts := C0.2.2.2.2.2.2.2.1
  exact A.behind C0 hl hz hS (va_runS (As := As) (rest := S) (g := F0 m pc ls S0) ⟨C0.1, C0.2.1, C0.2.2.1, C0.2.2.2.2.2.2.1, hts⟩ hc ⟨callB_of n hts (wds_good ok.1.1) rfl r1 r2 (hts _ ok.1.2.1) (hts _ hlk) ok.1.2.2 ⟨r3, r4⟩, hts _ ok.2⟩ (C.pre C0 X hT hP hz hS) rfl hn hl.1 hst (lv_room hcat) hd ⟨r5, r6⟩) hq3 hT X kk
theorem A.callN {host : String} (hd : Ix M pc q (.invokestatic idx) 3) (ok : OkS M' n) (hlk : ∀ s, VS G s → va_Nw (.methodLinkNest M.1.cls idx M'.1 host) s) (hn : As.length = n) (hst : S0 = As.reverse ++ S) (hcat : (S.map (fun v => v.category)).sum ≤ 8) (hr : Rm rm rm' M' kw mw') (hc : C G rm' M' mw' As h σ Q') (kk : ∀ v h' σ', Q' v h' σ' → h'.1 = h.1 + mw'.1 ∧ A G rm M (kw.1 + mw'.1, kw.2 + mw'.2) mw q L (v.toList ++ S) h' σ' Q) : A G rm M kw mw pc L S0 h σ Q := by
  intro p e s m args below meth c ls H locs C0 hl hP hz hS T hT X
  obtain ⟨hd, hq3⟩ := hd
  obtain ⟨r1, r2, r3, r4, r5, r6⟩ := hr
  have hts := C0.2.2.2.2.2.2.2.1
  exact A.behind C0 hl hz hS (va_runSN (As := As) (rest := S) (g := F0 m pc ls S0) ⟨C0.1, C0.2.1, C0.2.2.1, C0.2.2.2.2.2.2.1, hts⟩ hc ⟨va_cnB n hts (wds_good ok.1.1) rfl r1 r2 (hlk s C0.2.2.2.2.2.2.2.2.1) (hts _ ok.1.2.1) ok.1.2.2 ⟨r3, r4⟩, hts _ ok.2, trivial⟩ (C.pre C0 X hT hP hz hS) rfl hn hl.1 hst (lv_room hcat) hd ⟨r5, r6⟩) hq3 hT X kk
theorem A.callV {k c0 : Nat} (hd : Ix M pc q (.invokevirtual idx) 3) (ok : OkV M' n) (hlk : Cond.methodLink M.1.cls idx M'.1 ∈ gt) (hk : Ko h k c0) (hcl : c0 < 6 ∧ (cq c0).1 = M'.1.cls) (hn : As.length = n) (hst : S0 = As.reverse ++ rf G k :: S) (hcat : (S.map (fun v => v.category)).sum ≤ 8) (hr : Rm rm rm' M' kw mw') (hc : C G rm' M' mw' (rf G k :: As) h σ Q') (kk : ∀ v h' σ', Q' v h' σ' → h'.1 = h.1 + mw'.1 ∧ A G rm M (kw.1 + mw'.1, kw.2 + mw'.2) mw q L (v.toList ++ S) h' σ' Q) : A G rm M kw mw pc L S0 h σ Q := by
  intro p e s m args below meth c ls H locs C0 hl hP hz hS T hT X
  obtain ⟨hd, hq3⟩ := hd
  obtain ⟨r1, r2, r3, r4, r5, r6⟩ := hr
  have hts := C0.2.2.2.2.2.2.2.1
  have hpre := C.pre (As := rf G k :: As) C0 X hT hP hz hS
  have hrec := va_recv C0.2.2.2.2.2.2.2.2.1.1 hP (gw_all hcl.1).1 (wls_obj hk)
  rw [hcl.2] at hrec
  exact A.behind C0 hl hz hS (va_runV (As := As) (rest := S) (C := M'.1.cls) (b := gB G + k) (g := F0 m pc ls S0) ⟨C0.1, C0.2.1, C0.2.2.1, C0.2.2.2.2.2.2.1, hts⟩ hc ⟨callB_of n hts (wds_good ok.1.1) rfl r1 r2 (hts _ ok.1.2.1) (hts _ hlk) ok.1.2.2 ⟨r3, r4⟩, hts _ ok.2.1, hts _ ok.2.2⟩ ⟨hpre.1, hrec, hpre.2⟩ rfl hn hl.1 hst (lv_room hcat) hd ⟨r5, r6⟩) hq3 hT X kk
theorem A.callI {k : Nat} (hd : Ix M pc q (.invokespecial idx) 3) (ok : OkI M' n) (hlk : Cond.methodLink M.1.cls idx M'.1 ∈ gt) (hret : M'.2.2.2 = none) (hn : As.length = n) (hst : S0 = As.reverse ++ rf G k :: S) (hcat : (S.map (fun v => v.category)).sum ≤ 8) (hr : Rm rm rm' M' kw mw') (hc : C G rm' M' mw' (rf G k :: As) h σ Q') (kk : ∀ v h' σ', Q' v h' σ' → h'.1 = h.1 + mw'.1 ∧ A G rm M (kw.1 + mw'.1, kw.2 + mw'.2) mw q L (v.toList ++ S) h' σ' Q) : A G rm M kw mw pc L S0 h σ Q := by
  intro p e s m args below meth c ls H locs C0 hl hP hz hS T hT X
  obtain ⟨hd, hq3⟩ := hd
  obtain ⟨r1, r2, r3, r4, r5, r6⟩ := hr
  have hts := C0.2.2.2.2.2.2.2.1
  have hpre := C.pre (As := rf G k :: As) C0 X hT hP hz hS
  have hcd := ok.1.1
  rw [hret] at hcd
  have hw : wds M' = Cond.code M'.1 M'.2.1 M'.2.2.1 none :: gt := by simp only [wds, hret]
  exact A.behind C0 hl hz hS (va_runI (As := As) (rest := S) (b := gB G + k) (g := F0 m pc ls S0) ⟨C0.1, C0.2.1, C0.2.2.1, C0.2.2.2.2.2.2.1, hts⟩ hc ⟨callB_of n hts (wds_good ok.1.1) hw r1 r2 (hts _ ok.1.2.1) (hts _ hlk) ok.1.2.2 ⟨r3, r4⟩, ok.2.2, hts _ ok.2.1⟩ hpre rfl hn hl.1 hst (lv_room hcat) hd ⟨r5, r6⟩) hq3 hT X kk
end
def K0 : List (Nat × Nat) := [(7, 0), (3, 0), (0, 23), (0, 8), (0, 8), (3, 0), (0, 17), (0, 6), (0, 6), (5, 0), (0, 20), (0, 20), (0, 20), (5, 0), (0, 8), (0, 8), (0, 8), (5, 0), (0, 8), (0, 8), (0, 8), (2, 4), (4, 0), (0, 60), (4, 0), (0, 60), (4, 0), (0, 60), (4, 0), (0, 60), (6, 0), (0, 192), (0, 192), (0, 6), (0, 6), (0, 6), (6, 0), (0, 192), (0, 192), (0, 6), (0, 6), (0, 6), (8, 0), (0, 4), (0, 4), (0, 240), (0, 60), (0, 48), (0, 2), (0, 2), (0, 28), (0, 132), (0, 192), (0, 192), (0, 8), (0, 24), (0, 8), (0, 8), (0, 24), (0, 24), (1, 24)]
def R0 : Nat → Nat → Option Nat := fun k j => match k with
  | 0 => [some 1, some 5, some 9, some 13, some 17, some 21, some 30, some 36].getD j none
  | 1 => [none, some 2, some 3, some 4].getD j none
  | 5 => [none, some 6, some 7, some 8].getD j none
  | 9 => [some 10, some 11, some 12].getD j none
  | 13 => [some 14, some 15, some 16].getD j none
  | 17 => [some 18, some 19, some 20].getD j none
  | 21 => [some 22, some 24, some 26, some 28].getD j none
  | 22 => [some 23].getD j none
  | 24 => [some 25].getD j none
  | 26 => [some 27].getD j none
  | 28 => [some 29].getD j none
  | 30 => [some 1, some 5, some 9, some 31, some 32, some 33, some 34, some 35].getD j none
  | 36 => [some 1, some 5, some 9, some 37, some 38, some 39, some 40, some 41].getD j none
  | 42 => [some 43, some 44, some 45, some 46, none, some 47, some 48, none, some 49, some 50, none, some 51, some 52, some 53, some 54, some 55, some 56, some 57, none, some 58, none, some 59, some 60].getD j none
  | _ => none
def hd0 : HD := (61, fun k => K0.getD k (0, 0), R0)
theorem ko0 : Ko hd0 0 4 := ⟨by decide, rfl⟩
theorem ko1 : Ko hd0 1 0 := ⟨by decide, rfl⟩
theorem ka2 : Ka hd0 2 23 := ⟨by decide, rfl⟩
theorem ka3 : Ka hd0 3 8 := ⟨by decide, rfl⟩
theorem ka4 : Ka hd0 4 8 := ⟨by decide, rfl⟩
theorem ko5 : Ko hd0 5 0 := ⟨by decide, rfl⟩
theorem ka6 : Ka hd0 6 17 := ⟨by decide, rfl⟩
theorem ka7 : Ka hd0 7 6 := ⟨by decide, rfl⟩
theorem ka8 : Ka hd0 8 6 := ⟨by decide, rfl⟩
theorem ko9 : Ko hd0 9 2 := ⟨by decide, rfl⟩
theorem ka10 : Ka hd0 10 20 := ⟨by decide, rfl⟩
theorem ka11 : Ka hd0 11 20 := ⟨by decide, rfl⟩
theorem ka12 : Ka hd0 12 20 := ⟨by decide, rfl⟩
theorem ko13 : Ko hd0 13 2 := ⟨by decide, rfl⟩
theorem ka14 : Ka hd0 14 8 := ⟨by decide, rfl⟩
theorem ka15 : Ka hd0 15 8 := ⟨by decide, rfl⟩
theorem ka16 : Ka hd0 16 8 := ⟨by decide, rfl⟩
theorem ko17 : Ko hd0 17 2 := ⟨by decide, rfl⟩
theorem ka18 : Ka hd0 18 8 := ⟨by decide, rfl⟩
theorem ka19 : Ka hd0 19 8 := ⟨by decide, rfl⟩
theorem ka20 : Ka hd0 20 8 := ⟨by decide, rfl⟩
theorem kq21 : Kq hd0 21 4 := ⟨by decide, rfl⟩
theorem ko22 : Ko hd0 22 1 := ⟨by decide, rfl⟩
theorem ka23 : Ka hd0 23 60 := ⟨by decide, rfl⟩
theorem ko24 : Ko hd0 24 1 := ⟨by decide, rfl⟩
theorem ka25 : Ka hd0 25 60 := ⟨by decide, rfl⟩
theorem ko26 : Ko hd0 26 1 := ⟨by decide, rfl⟩
theorem ka27 : Ka hd0 27 60 := ⟨by decide, rfl⟩
theorem ko28 : Ko hd0 28 1 := ⟨by decide, rfl⟩
theorem ka29 : Ka hd0 29 60 := ⟨by decide, rfl⟩
theorem ko30 : Ko hd0 30 3 := ⟨by decide, rfl⟩
theorem ka31 : Ka hd0 31 192 := ⟨by decide, rfl⟩
theorem ka32 : Ka hd0 32 192 := ⟨by decide, rfl⟩
theorem ka33 : Ka hd0 33 6 := ⟨by decide, rfl⟩
theorem ka34 : Ka hd0 34 6 := ⟨by decide, rfl⟩
theorem ka35 : Ka hd0 35 6 := ⟨by decide, rfl⟩
theorem ko36 : Ko hd0 36 3 := ⟨by decide, rfl⟩
theorem ka37 : Ka hd0 37 192 := ⟨by decide, rfl⟩
theorem ka38 : Ka hd0 38 192 := ⟨by decide, rfl⟩
theorem ka39 : Ka hd0 39 6 := ⟨by decide, rfl⟩
theorem ka40 : Ka hd0 40 6 := ⟨by decide, rfl⟩
theorem ka41 : Ka hd0 41 6 := ⟨by decide, rfl⟩
theorem ko42 : Ko hd0 42 5 := ⟨by decide, rfl⟩
theorem ka43 : Ka hd0 43 4 := ⟨by decide, rfl⟩
theorem ka44 : Ka hd0 44 4 := ⟨by decide, rfl⟩
theorem ka45 : Ka hd0 45 240 := ⟨by decide, rfl⟩
theorem ka46 : Ka hd0 46 60 := ⟨by decide, rfl⟩
theorem ka47 : Ka hd0 47 48 := ⟨by decide, rfl⟩
theorem ka48 : Ka hd0 48 2 := ⟨by decide, rfl⟩
theorem ka49 : Ka hd0 49 2 := ⟨by decide, rfl⟩
theorem ka50 : Ka hd0 50 28 := ⟨by decide, rfl⟩
theorem ka51 : Ka hd0 51 132 := ⟨by decide, rfl⟩
theorem ka52 : Ka hd0 52 192 := ⟨by decide, rfl⟩
theorem ka53 : Ka hd0 53 192 := ⟨by decide, rfl⟩
theorem ka54 : Ka hd0 54 8 := ⟨by decide, rfl⟩
theorem ka55 : Ka hd0 55 24 := ⟨by decide, rfl⟩
theorem ka56 : Ka hd0 56 8 := ⟨by decide, rfl⟩
theorem ka57 : Ka hd0 57 8 := ⟨by decide, rfl⟩
theorem ka58 : Ka hd0 58 24 := ⟨by decide, rfl⟩
theorem ka59 : Ka hd0 59 24 := ⟨by decide, rfl⟩
theorem kj60 : Kj hd0 60 24 := ⟨by decide, rfl⟩
theorem kr0_0 : hd0.2.2 0 0 = some 1 := rfl
theorem kr0_1 : hd0.2.2 0 1 = some 5 := rfl
theorem kr0_2 : hd0.2.2 0 2 = some 9 := rfl
theorem kr0_3 : hd0.2.2 0 3 = some 13 := rfl
theorem kr0_4 : hd0.2.2 0 4 = some 17 := rfl
theorem kr0_5 : hd0.2.2 0 5 = some 21 := rfl
theorem kr0_6 : hd0.2.2 0 6 = some 30 := rfl
theorem kr0_7 : hd0.2.2 0 7 = some 36 := rfl
theorem kr1_1 : hd0.2.2 1 1 = some 2 := rfl
theorem kr1_2 : hd0.2.2 1 2 = some 3 := rfl
theorem kr1_3 : hd0.2.2 1 3 = some 4 := rfl
theorem kr5_1 : hd0.2.2 5 1 = some 6 := rfl
theorem kr5_2 : hd0.2.2 5 2 = some 7 := rfl
theorem kr5_3 : hd0.2.2 5 3 = some 8 := rfl
theorem kr9_0 : hd0.2.2 9 0 = some 10 := rfl
theorem kr9_1 : hd0.2.2 9 1 = some 11 := rfl
theorem kr9_2 : hd0.2.2 9 2 = some 12 := rfl
theorem kr13_0 : hd0.2.2 13 0 = some 14 := rfl
theorem kr13_1 : hd0.2.2 13 1 = some 15 := rfl
theorem kr13_2 : hd0.2.2 13 2 = some 16 := rfl
theorem kr17_0 : hd0.2.2 17 0 = some 18 := rfl
theorem kr17_1 : hd0.2.2 17 1 = some 19 := rfl
theorem kr17_2 : hd0.2.2 17 2 = some 20 := rfl
theorem kr21_0 : hd0.2.2 21 0 = some 22 := rfl
theorem kr21_1 : hd0.2.2 21 1 = some 24 := rfl
theorem kr21_2 : hd0.2.2 21 2 = some 26 := rfl
theorem kr21_3 : hd0.2.2 21 3 = some 28 := rfl
theorem kr22_0 : hd0.2.2 22 0 = some 23 := rfl
theorem kr24_0 : hd0.2.2 24 0 = some 25 := rfl
theorem kr26_0 : hd0.2.2 26 0 = some 27 := rfl
theorem kr28_0 : hd0.2.2 28 0 = some 29 := rfl
theorem kr30_0 : hd0.2.2 30 0 = some 1 := rfl
theorem kr30_1 : hd0.2.2 30 1 = some 5 := rfl
theorem kr30_2 : hd0.2.2 30 2 = some 9 := rfl
theorem kr30_3 : hd0.2.2 30 3 = some 31 := rfl
theorem kr30_4 : hd0.2.2 30 4 = some 32 := rfl
theorem kr30_5 : hd0.2.2 30 5 = some 33 := rfl
theorem kr30_6 : hd0.2.2 30 6 = some 34 := rfl
theorem kr30_7 : hd0.2.2 30 7 = some 35 := rfl
theorem kr36_0 : hd0.2.2 36 0 = some 1 := rfl
theorem kr36_1 : hd0.2.2 36 1 = some 5 := rfl
theorem kr36_2 : hd0.2.2 36 2 = some 9 := rfl
theorem kr36_3 : hd0.2.2 36 3 = some 37 := rfl
theorem kr36_4 : hd0.2.2 36 4 = some 38 := rfl
theorem kr36_5 : hd0.2.2 36 5 = some 39 := rfl
theorem kr36_6 : hd0.2.2 36 6 = some 40 := rfl
theorem kr36_7 : hd0.2.2 36 7 = some 41 := rfl
theorem kr42_0 : hd0.2.2 42 0 = some 43 := rfl
theorem kr42_1 : hd0.2.2 42 1 = some 44 := rfl
theorem kr42_2 : hd0.2.2 42 2 = some 45 := rfl
theorem kr42_3 : hd0.2.2 42 3 = some 46 := rfl
theorem kr42_5 : hd0.2.2 42 5 = some 47 := rfl
theorem kr42_6 : hd0.2.2 42 6 = some 48 := rfl
theorem kr42_8 : hd0.2.2 42 8 = some 49 := rfl
theorem kr42_9 : hd0.2.2 42 9 = some 50 := rfl
theorem kr42_11 : hd0.2.2 42 11 = some 51 := rfl
theorem kr42_12 : hd0.2.2 42 12 = some 52 := rfl
theorem kr42_13 : hd0.2.2 42 13 = some 53 := rfl
theorem kr42_14 : hd0.2.2 42 14 = some 54 := rfl
theorem kr42_15 : hd0.2.2 42 15 = some 55 := rfl
theorem kr42_16 : hd0.2.2 42 16 = some 56 := rfl
theorem kr42_17 : hd0.2.2 42 17 = some 57 := rfl
theorem kr42_19 : hd0.2.2 42 19 = some 58 := rfl
theorem kr42_21 : hd0.2.2 42 21 = some 59 := rfl
theorem kr42_22 : hd0.2.2 42 22 = some 60 := rfl
abbrev r0 (fr lo : Nat) : Room := { frames := fr, cells := 0, slots := 0, locals := lo }
/-- contracts of methods in the room that stands: an int, a long, nothing, a reference -/
def Ci (G : GW) (rm : Room) (M : MR) (As : List Value) (σ : St) (K : Int32 → St → Prop) : Prop := C G rm M (0, 0) As hd0 σ (fun v h' σ' => h' = hd0 ∧ ∃ r, v = some (.int r) ∧ K r σ')
def Cl (G : GW) (rm : Room) (M : MR) (As : List Value) (σ : St) (K : Int64 → St → Prop) : Prop := C G rm M (0, 0) As hd0 σ (fun v h' σ' => h' = hd0 ∧ ∃ r, v = some (.long r) ∧ K r σ')
def Cv (G : GW) (rm : Room) (M : MR) (As : List Value) (σ : St) (K : St → Prop) : Prop := C G rm M (0, 0) As hd0 σ (fun v h' σ' => h' = hd0 ∧ v = none ∧ K σ')
def Ca (G : GW) (rm : Room) (M : MR) (As : List Value) (σ : St) (K : Value → St → Prop) : Prop := C G rm M (0, 0) As hd0 σ (fun v h' σ' => h' = hd0 ∧ ∃ r, v = some r ∧ K r σ')
/-- a frame in the room that stands -/
abbrev B (G : GW) (rm : Room) (M : MR) (pc : Nat) (L : List (Option Value)) (S : List Value) (σ : St) (Q : Option Value → HD → St → Prop) : Prop := A G rm M (0, 0) (0, 0) pc L S hd0 σ Q
abbrev Pi (K : Int32 → St → Prop) : Option Value → HD → St → Prop := fun v h' σ' => h' = hd0 ∧ ∃ r, v = some (.int r) ∧ K r σ'
abbrev Pl (K : Int64 → St → Prop) : Option Value → HD → St → Prop := fun v h' σ' => h' = hd0 ∧ ∃ r, v = some (.long r) ∧ K r σ'
abbrev Pv (K : St → Prop) : Option Value → HD → St → Prop := fun v h' σ' => h' = hd0 ∧ v = none ∧ K σ'
abbrev Pa (K : Value → St → Prop) : Option Value → HD → St → Prop := fun v h' σ' => h' = hd0 ∧ ∃ r, v = some r ∧ K r σ'
section
variable {G : GW} {rm : Room} {M : MR} {pc q : Nat} {L : List (Option Value)} {σ : St}
theorem B.iret {r : Int32} {K : Int32 → St → Prop} (hd : Ix M pc q .ireturn 1) (hq : K r σ) (hr : M.2.2.2 = some .int := by rfl) : B G rm M pc L [.int r] σ (Pi K) := A.iret hd hr rfl ⟨rfl, r, rfl, hq⟩
theorem B.zret {r : Int32} {K : Int32 → St → Prop} (hd : Ix M pc q .ireturn 1) (h01 : r = 0 ∨ r = 1) (hq : K r σ) (hr : M.2.2.2 = some .boolean := by rfl) : B G rm M pc L [.int r] σ (Pi K) := A.zret hd hr rfl h01 ⟨rfl, r, rfl, hq⟩
theorem B.lret {r : Int64} {K : Int64 → St → Prop} (hd : Ix M pc q .lreturn 1) (hq : K r σ) (hr : M.2.2.2 = some .long := by rfl) : B G rm M pc L [.long r] σ (Pl K) := A.lret hd hr rfl ⟨rfl, r, rfl, hq⟩
theorem B.vret {K : St → Prop} (hd : Ix M pc q .return_ 1) (hq : K σ) (hr : M.2.2.2 = none := by rfl) : B G rm M pc L [] σ (Pv K) := A.vret hd hr rfl ⟨rfl, rfl, hq⟩
theorem B.aretR {a : Nat} {nm : String} {K : Value → St → Prop} (hd : Ix M pc q .areturn 1) (hr : M.2.2.2 = some (.object nm)) (hq : K (rf G a) σ) : B G rm M pc L [rf G a] σ (Pa K) := A.aret hd hr rfl (Or.inr ⟨a, rfl⟩) ⟨rfl, _, rfl, hq⟩
theorem B.aretN {nm : String} {K : Value → St → Prop} (hd : Ix M pc q .areturn 1) (hr : M.2.2.2 = some (.object nm)) (hq : K .null σ) : B G rm M pc L [.null] σ (Pa K) := A.aret hd hr rfl (Or.inl rfl) ⟨rfl, _, rfl, hq⟩
theorem Ci.of {As : List Value} {K : Int32 → St → Prop} (L : List (Option Value)) (body : B G rm M 0 L [] σ (Pi K)) (hL : ent M.2.2.1 As = L := by rfl) (hf : (lg_sl As).length ≤ M.2.2.1 := by exact Nat.le_of_ble_eq_true rfl) (hpl : plainName M.1.cls = true := by decide) : Ci G rm M As σ K := C.of hpl hL hf body
theorem Cl.of {As : List Value} {K : Int64 → St → Prop} (L : List (Option Value)) (body : B G rm M 0 L [] σ (Pl K)) (hL : ent M.2.2.1 As = L := by rfl) (hf : (lg_sl As).length ≤ M.2.2.1 := by exact Nat.le_of_ble_eq_true rfl) (hpl : plainName M.1.cls = true := by decide) : Cl G rm M As σ K := C.of hpl hL hf body
theorem Cv.of {As : List Value} {K : St → Prop} (L : List (Option Value)) (body : B G rm M 0 L [] σ (Pv K)) (hL : ent M.2.2.1 As = L := by rfl) (hf : (lg_sl As).length ≤ M.2.2.1 := by exact Nat.le_of_ble_eq_true rfl) (hpl : plainName M.1.cls = true := by decide) : Cv G rm M As σ K := C.of hpl hL hf body
theorem Ca.of {As : List Value} {K : Value → St → Prop} (L : List (Option Value)) (body : B G rm M 0 L [] σ (Pa K)) (hL : ent M.2.2.1 As = L := by rfl) (hf : (lg_sl As).length ≤ M.2.2.1 := by exact Nat.le_of_ble_eq_true rfl) (hpl : plainName M.1.cls = true := by decide) : Ca G rm M As σ K := C.of hpl hL hf body
end
theorem A.cSi0 {G : GW} {rm rm' : Room} {M M' : MR} {kw mw : Nat × Nat} {pc q idx : Nat} {L : List (Option Value)} {S : List Value} {σ : St} {Q : Option Value → HD → St → Prop} (hd : Ix M pc q (.invokestatic idx) 3) (ok : OkS M' 0) (hlk : Cond.methodLink M.1.cls idx M'.1 ∈ gt) (hc : Ci G rm' M' [] σ (fun r σ' => A G rm M kw mw q L (.int r :: S) hd0 σ' Q)) (hcat : (S.map (fun v => v.category)).sum ≤ 8 := by exact Nat.le_of_ble_eq_true rfl) (hr : Rm rm rm' M' kw (0, 0) := by exact ⟨rfl, rfl, Nat.le_of_ble_eq_true rfl, Nat.le_of_ble_eq_true rfl, Nat.le_of_ble_eq_true rfl, Nat.le_of_ble_eq_true rfl⟩) : A G rm M kw mw pc L (S) hd0 σ Q := A.callS (As := []) hd ok hlk rfl rfl hcat hr hc (by rintro v h' σ' ⟨rfl, r, rfl, hk⟩; exact ⟨rfl, hk⟩)
theorem A.cVi0 {G : GW} {rm rm' : Room} {M M' : MR} {kw mw : Nat × Nat} {pc q idx : Nat} {L : List (Option Value)} {S : List Value} {σ : St} {Q : Option Value → HD → St → Prop} {k c0 : Nat} (hd : Ix M pc q (.invokevirtual idx) 3) (ok : OkV M' 0) (hlk : Cond.methodLink M.1.cls idx M'.1 ∈ gt) (hk : Ko hd0 k c0) (hc : Ci G rm' M' (rf G k :: []) σ (fun r σ' => A G rm M kw mw q L (.int r :: S) hd0 σ' Q)) (hcl : c0 < 6 ∧ (cq c0).1 = M'.1.cls := by exact ⟨Nat.le_of_ble_eq_true rfl, rfl⟩) (hcat : (S.map (fun v => v.category)).sum ≤ 8 := by exact Nat.le_of_ble_eq_true rfl) (hr : Rm rm rm' M' kw (0, 0) := by exact ⟨rfl, rfl, Nat.le_of_ble_eq_true rfl, Nat.le_of_ble_eq_true rfl, Nat.le_of_ble_eq_true rfl, Nat.le_of_ble_eq_true rfl⟩) : A G rm M kw mw pc L (rf G k :: S) hd0 σ Q := A.callV (As := []) hd ok hlk hk hcl rfl rfl hcat hr hc (by rintro v h' σ' ⟨rfl, r, rfl, hk⟩; exact ⟨rfl, hk⟩)
theorem A.cSi1 {G : GW} {rm rm' : Room} {M M' : MR} {kw mw : Nat × Nat} {pc q idx : Nat} {L : List (Option Value)} {S : List Value} {σ : St} {Q : Option Value → HD → St → Prop} {a1 : Value} (hd : Ix M pc q (.invokestatic idx) 3) (ok : OkS M' 1) (hlk : Cond.methodLink M.1.cls idx M'.1 ∈ gt) (hc : Ci G rm' M' [a1] σ (fun r σ' => A G rm M kw mw q L (.int r :: S) hd0 σ' Q)) (hcat : (S.map (fun v => v.category)).sum ≤ 8 := by exact Nat.le_of_ble_eq_true rfl) (hr : Rm rm rm' M' kw (0, 0) := by exact ⟨rfl, rfl, Nat.le_of_ble_eq_true rfl, Nat.le_of_ble_eq_true rfl, Nat.le_of_ble_eq_true rfl, Nat.le_of_ble_eq_true rfl⟩) : A G rm M kw mw pc L (a1 :: S) hd0 σ Q := A.callS (As := [a1]) hd ok hlk rfl rfl hcat hr hc (by rintro v h' σ' ⟨rfl, r, rfl, hk⟩; exact ⟨rfl, hk⟩)
theorem A.cVi1 {G : GW} {rm rm' : Room} {M M' : MR} {kw mw : Nat × Nat} {pc q idx : Nat} {L : List (Option Value)} {S : List Value} {σ : St} {Q : Option Value → HD → St → Prop} {a1 : Value} {k c0 : Nat} (hd : Ix M pc q (.invokevirtual idx) 3) (ok : OkV M' 1) (hlk : Cond.methodLink M.1.cls idx M'.1 ∈ gt) (hk : Ko hd0 k c0) (hc : Ci G rm' M' (rf G k :: [a1]) σ (fun r σ' => A G rm M kw mw q L (.int r :: S) hd0 σ' Q)) (hcl : c0 < 6 ∧ (cq c0).1 = M'.1.cls := by exact ⟨Nat.le_of_ble_eq_true rfl, rfl⟩) (hcat : (S.map (fun v => v.category)).sum ≤ 8 := by exact Nat.le_of_ble_eq_true rfl) (hr : Rm rm rm' M' kw (0, 0) := by exact ⟨rfl, rfl, Nat.le_of_ble_eq_true rfl, Nat.le_of_ble_eq_true rfl, Nat.le_of_ble_eq_true rfl, Nat.le_of_ble_eq_true rfl⟩) : A G rm M kw mw pc L (a1 :: rf G k :: S) hd0 σ Q := A.callV (As := [a1]) hd ok hlk hk hcl rfl rfl hcat hr hc (by rintro v h' σ' ⟨rfl, r, rfl, hk⟩; exact ⟨rfl, hk⟩)
theorem A.cSi2 {G : GW} {rm rm' : Room} {M M' : MR} {kw mw : Nat × Nat} {pc q idx : Nat} {L : List (Option Value)} {S : List Value} {σ : St} {Q : Option Value → HD → St → Prop} {a1 a2 : Value} (hd : Ix M pc q (.invokestatic idx) 3) (ok : OkS M' 2) (hlk : Cond.methodLink M.1.cls idx M'.1 ∈ gt) (hc : Ci G rm' M' [a1, a2] σ (fun r σ' => A G rm M kw mw q L (.int r :: S) hd0 σ' Q)) (hcat : (S.map (fun v => v.category)).sum ≤ 8 := by exact Nat.le_of_ble_eq_true rfl) (hr : Rm rm rm' M' kw (0, 0) := by exact ⟨rfl, rfl, Nat.le_of_ble_eq_true rfl, Nat.le_of_ble_eq_true rfl, Nat.le_of_ble_eq_true rfl, Nat.le_of_ble_eq_true rfl⟩) : A G rm M kw mw pc L (a2 :: a1 :: S) hd0 σ Q := A.callS (As := [a1, a2]) hd ok hlk rfl rfl hcat hr hc (by rintro v h' σ' ⟨rfl, r, rfl, hk⟩; exact ⟨rfl, hk⟩)
theorem A.cVi2 {G : GW} {rm rm' : Room} {M M' : MR} {kw mw : Nat × Nat} {pc q idx : Nat} {L : List (Option Value)} {S : List Value} {σ : St} {Q : Option Value → HD → St → Prop} {a1 a2 : Value} {k c0 : Nat} (hd : Ix M pc q (.invokevirtual idx) 3) (ok : OkV M' 2) (hlk : Cond.methodLink M.1.cls idx M'.1 ∈ gt) (hk : Ko hd0 k c0) (hc : Ci G rm' M' (rf G k :: [a1, a2]) σ (fun r σ' => A G rm M kw mw q L (.int r :: S) hd0 σ' Q)) (hcl : c0 < 6 ∧ (cq c0).1 = M'.1.cls := by exact ⟨Nat.le_of_ble_eq_true rfl, rfl⟩) (hcat : (S.map (fun v => v.category)).sum ≤ 8 := by exact Nat.le_of_ble_eq_true rfl) (hr : Rm rm rm' M' kw (0, 0) := by exact ⟨rfl, rfl, Nat.le_of_ble_eq_true rfl, Nat.le_of_ble_eq_true rfl, Nat.le_of_ble_eq_true rfl, Nat.le_of_ble_eq_true rfl⟩) : A G rm M kw mw pc L (a2 :: a1 :: rf G k :: S) hd0 σ Q := A.callV (As := [a1, a2]) hd ok hlk hk hcl rfl rfl hcat hr hc (by rintro v h' σ' ⟨rfl, r, rfl, hk⟩; exact ⟨rfl, hk⟩)
theorem A.cSi3 {G : GW} {rm rm' : Room} {M M' : MR} {kw mw : Nat × Nat} {pc q idx : Nat} {L : List (Option Value)} {S : List Value} {σ : St} {Q : Option Value → HD → St → Prop} {a1 a2 a3 : Value} (hd : Ix M pc q (.invokestatic idx) 3) (ok : OkS M' 3) (hlk : Cond.methodLink M.1.cls idx M'.1 ∈ gt) (hc : Ci G rm' M' [a1, a2, a3] σ (fun r σ' => A G rm M kw mw q L (.int r :: S) hd0 σ' Q)) (hcat : (S.map (fun v => v.category)).sum ≤ 8 := by exact Nat.le_of_ble_eq_true rfl) (hr : Rm rm rm' M' kw (0, 0) := by exact ⟨rfl, rfl, Nat.le_of_ble_eq_true rfl, Nat.le_of_ble_eq_true rfl, Nat.le_of_ble_eq_true rfl, Nat.le_of_ble_eq_true rfl⟩) : A G rm M kw mw pc L (a3 :: a2 :: a1 :: S) hd0 σ Q := A.callS (As := [a1, a2, a3]) hd ok hlk rfl rfl hcat hr hc (by rintro v h' σ' ⟨rfl, r, rfl, hk⟩; exact ⟨rfl, hk⟩)
theorem A.cVi3 {G : GW} {rm rm' : Room} {M M' : MR} {kw mw : Nat × Nat} {pc q idx : Nat} {L : List (Option Value)} {S : List Value} {σ : St} {Q : Option Value → HD → St → Prop} {a1 a2 a3 : Value} {k c0 : Nat} (hd : Ix M pc q (.invokevirtual idx) 3) (ok : OkV M' 3) (hlk : Cond.methodLink M.1.cls idx M'.1 ∈ gt) (hk : Ko hd0 k c0) (hc : Ci G rm' M' (rf G k :: [a1, a2, a3]) σ (fun r σ' => A G rm M kw mw q L (.int r :: S) hd0 σ' Q)) (hcl : c0 < 6 ∧ (cq c0).1 = M'.1.cls := by exact ⟨Nat.le_of_ble_eq_true rfl, rfl⟩) (hcat : (S.map (fun v => v.category)).sum ≤ 8 := by exact Nat.le_of_ble_eq_true rfl) (hr : Rm rm rm' M' kw (0, 0) := by exact ⟨rfl, rfl, Nat.le_of_ble_eq_true rfl, Nat.le_of_ble_eq_true rfl, Nat.le_of_ble_eq_true rfl, Nat.le_of_ble_eq_true rfl⟩) : A G rm M kw mw pc L (a3 :: a2 :: a1 :: rf G k :: S) hd0 σ Q := A.callV (As := [a1, a2, a3]) hd ok hlk hk hcl rfl rfl hcat hr hc (by rintro v h' σ' ⟨rfl, r, rfl, hk⟩; exact ⟨rfl, hk⟩)
theorem A.cSi4 {G : GW} {rm rm' : Room} {M M' : MR} {kw mw : Nat × Nat} {pc q idx : Nat} {L : List (Option Value)} {S : List Value} {σ : St} {Q : Option Value → HD → St → Prop} {a1 a2 a3 a4 : Value} (hd : Ix M pc q (.invokestatic idx) 3) (ok : OkS M' 4) (hlk : Cond.methodLink M.1.cls idx M'.1 ∈ gt) (hc : Ci G rm' M' [a1, a2, a3, a4] σ (fun r σ' => A G rm M kw mw q L (.int r :: S) hd0 σ' Q)) (hcat : (S.map (fun v => v.category)).sum ≤ 8 := by exact Nat.le_of_ble_eq_true rfl) (hr : Rm rm rm' M' kw (0, 0) := by exact ⟨rfl, rfl, Nat.le_of_ble_eq_true rfl, Nat.le_of_ble_eq_true rfl, Nat.le_of_ble_eq_true rfl, Nat.le_of_ble_eq_true rfl⟩) : A G rm M kw mw pc L (a4 :: a3 :: a2 :: a1 :: S) hd0 σ Q := A.callS (As := [a1, a2, a3, a4]) hd ok hlk rfl rfl hcat hr hc (by rintro v h' σ' ⟨rfl, r, rfl, hk⟩; exact ⟨rfl, hk⟩)
theorem A.cVi4 {G : GW} {rm rm' : Room} {M M' : MR} {kw mw : Nat × Nat} {pc q idx : Nat} {L : List (Option Value)} {S : List Value} {σ : St} {Q : Option Value → HD → St → Prop} {a1 a2 a3 a4 : Value} {k c0 : Nat} (hd : Ix M pc q (.invokevirtual idx) 3) (ok : OkV M' 4) (hlk : Cond.methodLink M.1.cls idx M'.1 ∈ gt) (hk : Ko hd0 k c0) (hc : Ci G rm' M' (rf G k :: [a1, a2, a3, a4]) σ (fun r σ' => A G rm M kw mw q L (.int r :: S) hd0 σ' Q)) (hcl : c0 < 6 ∧ (cq c0).1 = M'.1.cls := by exact ⟨Nat.le_of_ble_eq_true rfl, rfl⟩) (hcat : (S.map (fun v => v.category)).sum ≤ 8 := by exact Nat.le_of_ble_eq_true rfl) (hr : Rm rm rm' M' kw (0, 0) := by exact ⟨rfl, rfl, Nat.le_of_ble_eq_true rfl, Nat.le_of_ble_eq_true rfl, Nat.le_of_ble_eq_true rfl, Nat.le_of_ble_eq_true rfl⟩) : A G rm M kw mw pc L (a4 :: a3 :: a2 :: a1 :: rf G k :: S) hd0 σ Q := A.callV (As := [a1, a2, a3, a4]) hd ok hlk hk hcl rfl rfl hcat hr hc (by rintro v h' σ' ⟨rfl, r, rfl, hk⟩; exact ⟨rfl, hk⟩)
theorem A.cSi5 {G : GW} {rm rm' : Room} {M M' : MR} {kw mw : Nat × Nat} {pc q idx : Nat} {L : List (Option Value)} {S : List Value} {σ : St} {Q : Option Value → HD → St → Prop} {a1 a2 a3 a4 a5 : Value} (hd : Ix M pc q (.invokestatic idx) 3) (ok : OkS M' 5) (hlk : Cond.methodLink M.1.cls idx M'.1 ∈ gt) (hc : Ci G rm' M' [a1, a2, a3, a4, a5] σ (fun r σ' => A G rm M kw mw q L (.int r :: S) hd0 σ' Q)) (hcat : (S.map (fun v => v.category)).sum ≤ 8 := by exact Nat.le_of_ble_eq_true rfl) (hr : Rm rm rm' M' kw (0, 0) := by exact ⟨rfl, rfl, Nat.le_of_ble_eq_true rfl, Nat.le_of_ble_eq_true rfl, Nat.le_of_ble_eq_true rfl, Nat.le_of_ble_eq_true rfl⟩) : A G rm M kw mw pc L (a5 :: a4 :: a3 :: a2 :: a1 :: S) hd0 σ Q := A.callS (As := [a1, a2, a3, a4, a5]) hd ok hlk rfl rfl hcat hr hc (by rintro v h' σ' ⟨rfl, r, rfl, hk⟩; exact ⟨rfl, hk⟩)
theorem A.cVi5 {G : GW} {rm rm' : Room} {M M' : MR} {kw mw : Nat × Nat} {pc q idx : Nat} {L : List (Option Value)} {S : List Value} {σ : St} {Q : Option Value → HD → St → Prop} {a1 a2 a3 a4 a5 : Value} {k c0 : Nat} (hd : Ix M pc q (.invokevirtual idx) 3) (ok : OkV M' 5) (hlk : Cond.methodLink M.1.cls idx M'.1 ∈ gt) (hk : Ko hd0 k c0) (hc : Ci G rm' M' (rf G k :: [a1, a2, a3, a4, a5]) σ (fun r σ' => A G rm M kw mw q L (.int r :: S) hd0 σ' Q)) (hcl : c0 < 6 ∧ (cq c0).1 = M'.1.cls := by exact ⟨Nat.le_of_ble_eq_true rfl, rfl⟩) (hcat : (S.map (fun v => v.category)).sum ≤ 8 := by exact Nat.le_of_ble_eq_true rfl) (hr : Rm rm rm' M' kw (0, 0) := by exact ⟨rfl, rfl, Nat.le_of_ble_eq_true rfl, Nat.le_of_ble_eq_true rfl, Nat.le_of_ble_eq_true rfl, Nat.le_of_ble_eq_true rfl⟩) : A G rm M kw mw pc L (a5 :: a4 :: a3 :: a2 :: a1 :: rf G k :: S) hd0 σ Q := A.callV (As := [a1, a2, a3, a4, a5]) hd ok hlk hk hcl rfl rfl hcat hr hc (by rintro v h' σ' ⟨rfl, r, rfl, hk⟩; exact ⟨rfl, hk⟩)
theorem A.cSl0 {G : GW} {rm rm' : Room} {M M' : MR} {kw mw : Nat × Nat} {pc q idx : Nat} {L : List (Option Value)} {S : List Value} {σ : St} {Q : Option Value → HD → St → Prop} (hd : Ix M pc q (.invokestatic idx) 3) (ok : OkS M' 0) (hlk : Cond.methodLink M.1.cls idx M'.1 ∈ gt) (hc : Cl G rm' M' [] σ (fun r σ' => A G rm M kw mw q L (.long r :: S) hd0 σ' Q)) (hcat : (S.map (fun v => v.category)).sum ≤ 8 := by exact Nat.le_of_ble_eq_true rfl) (hr : Rm rm rm' M' kw (0, 0) := by exact ⟨rfl, rfl, Nat.le_of_ble_eq_true rfl, Nat.le_of_ble_eq_true rfl, Nat.le_of_ble_eq_true rfl, Nat.le_of_ble_eq_true rfl⟩) : A G rm M kw mw pc L (S) hd0 σ Q := A.callS (As := []) hd ok hlk rfl rfl hcat hr hc (by rintro v h' σ' ⟨rfl, r, rfl, hk⟩; exact ⟨rfl, hk⟩)
theorem A.cVl0 {G : GW} {rm rm' : Room} {M M' : MR} {kw mw : Nat × Nat} {pc q idx : Nat} {L : List (Option Value)} {S : List Value} {σ : St} {Q : Option Value → HD → St → Prop} {k c0 : Nat} (hd : Ix M pc q (.invokevirtual idx) 3) (ok : OkV M' 0) (hlk : Cond.methodLink M.1.cls idx M'.1 ∈ gt) (hk : Ko hd0 k c0) (hc : Cl G rm' M' (rf G k :: []) σ (fun r σ' => A G rm M kw mw q L (.long r :: S) hd0 σ' Q)) (hcl : c0 < 6 ∧ (cq c0).1 = M'.1.cls := by exact ⟨Nat.le_of_ble_eq_true rfl, rfl⟩) (hcat : (S.map (fun v => v.category)).sum ≤ 8 := by exact Nat.le_of_ble_eq_true rfl) (hr : Rm rm rm' M' kw (0, 0) := by exact ⟨rfl, rfl, Nat.le_of_ble_eq_true rfl, Nat.le_of_ble_eq_true rfl, Nat.le_of_ble_eq_true rfl, Nat.le_of_ble_eq_true rfl⟩) : A G rm M kw mw pc L (rf G k :: S) hd0 σ Q := A.callV (As := []) hd ok hlk hk hcl rfl rfl hcat hr hc (by rintro v h' σ' ⟨rfl, r, rfl, hk⟩; exact ⟨rfl, hk⟩)
theorem A.cSl1 {G : GW} {rm rm' : Room} {M M' : MR} {kw mw : Nat × Nat} {pc q idx : Nat} {L : List (Option Value)} {S : List Value} {σ : St} {Q : Option Value → HD → St → Prop} {a1 : Value} (hd : Ix M pc q (.invokestatic idx) 3) (ok : OkS M' 1) (hlk : Cond.methodLink M.1.cls idx M'.1 ∈ gt) (hc : Cl G rm' M' [a1] σ (fun r σ' => A G rm M kw mw q L (.long r :: S) hd0 σ' Q)) (hcat : (S.map (fun v => v.category)).sum ≤ 8 := by exact Nat.le_of_ble_eq_true rfl) (hr : Rm rm rm' M' kw (0, 0) := by exact ⟨rfl, rfl, Nat.le_of_ble_eq_true rfl, Nat.le_of_ble_eq_true rfl, Nat.le_of_ble_eq_true rfl, Nat.le_of_ble_eq_true rfl⟩) : A G rm M kw mw pc L (a1 :: S) hd0 σ Q := A.callS (As := [a1]) hd ok hlk rfl rfl hcat hr hc (by rintro v h' σ' ⟨rfl, r, rfl, hk⟩; exact ⟨rfl, hk⟩)
theorem A.cVl1 {G : GW} {rm rm' : Room} {M M' : MR} {kw mw : Nat × Nat} {pc q idx : Nat} {L : List (Option Value)} {S : List Value} {σ : St} {Q : Option Value → HD → St → Prop} {a1 : Value} {k c0 : Nat} (hd : Ix M pc q (.invokevirtual idx) 3) (ok : OkV M' 1) (hlk : Cond.methodLink M.1.cls idx M'.1 ∈ gt) (hk : Ko hd0 k c0) (hc : Cl G rm' M' (rf G k :: [a1]) σ (fun r σ' => A G rm M kw mw q L (.long r :: S) hd0 σ' Q)) (hcl : c0 < 6 ∧ (cq c0).1 = M'.1.cls := by exact ⟨Nat.le_of_ble_eq_true rfl, rfl⟩) (hcat : (S.map (fun v => v.category)).sum ≤ 8 := by exact Nat.le_of_ble_eq_true rfl) (hr : Rm rm rm' M' kw (0, 0) := by exact ⟨rfl, rfl, Nat.le_of_ble_eq_true rfl, Nat.le_of_ble_eq_true rfl, Nat.le_of_ble_eq_true rfl, Nat.le_of_ble_eq_true rfl⟩) : A G rm M kw mw pc L (a1 :: rf G k :: S) hd0 σ Q := A.callV (As := [a1]) hd ok hlk hk hcl rfl rfl hcat hr hc (by rintro v h' σ' ⟨rfl, r, rfl, hk⟩; exact ⟨rfl, hk⟩)
theorem A.cSl2 {G : GW} {rm rm' : Room} {M M' : MR} {kw mw : Nat × Nat} {pc q idx : Nat} {L : List (Option Value)} {S : List Value} {σ : St} {Q : Option Value → HD → St → Prop} {a1 a2 : Value} (hd : Ix M pc q (.invokestatic idx) 3) (ok : OkS M' 2) (hlk : Cond.methodLink M.1.cls idx M'.1 ∈ gt) (hc : Cl G rm' M' [a1, a2] σ (fun r σ' => A G rm M kw mw q L (.long r :: S) hd0 σ' Q)) (hcat : (S.map (fun v => v.category)).sum ≤ 8 := by exact Nat.le_of_ble_eq_true rfl) (hr : Rm rm rm' M' kw (0, 0) := by exact ⟨rfl, rfl, Nat.le_of_ble_eq_true rfl, Nat.le_of_ble_eq_true rfl, Nat.le_of_ble_eq_true rfl, Nat.le_of_ble_eq_true rfl⟩) : A G rm M kw mw pc L (a2 :: a1 :: S) hd0 σ Q := A.callS (As := [a1, a2]) hd ok hlk rfl rfl hcat hr hc (by rintro v h' σ' ⟨rfl, r, rfl, hk⟩; exact ⟨rfl, hk⟩)
theorem A.cVl2 {G : GW} {rm rm' : Room} {M M' : MR} {kw mw : Nat × Nat} {pc q idx : Nat} {L : List (Option Value)} {S : List Value} {σ : St} {Q : Option Value → HD → St → Prop} {a1 a2 : Value} {k c0 : Nat} (hd : Ix M pc q (.invokevirtual idx) 3) (ok : OkV M' 2) (hlk : Cond.methodLink M.1.cls idx M'.1 ∈ gt) (hk : Ko hd0 k c0) (hc : Cl G rm' M' (rf G k :: [a1, a2]) σ (fun r σ' => A G rm M kw mw q L (.long r :: S) hd0 σ' Q)) (hcl : c0 < 6 ∧ (cq c0).1 = M'.1.cls := by exact ⟨Nat.le_of_ble_eq_true rfl, rfl⟩) (hcat : (S.map (fun v => v.category)).sum ≤ 8 := by exact Nat.le_of_ble_eq_true rfl) (hr : Rm rm rm' M' kw (0, 0) := by exact ⟨rfl, rfl, Nat.le_of_ble_eq_true rfl, Nat.le_of_ble_eq_true rfl, Nat.le_of_ble_eq_true rfl, Nat.le_of_ble_eq_true rfl⟩) : A G rm M kw mw pc L (a2 :: a1 :: rf G k :: S) hd0 σ Q := A.callV (As := [a1, a2]) hd ok hlk hk hcl rfl rfl hcat hr hc (by rintro v h' σ' ⟨rfl, r, rfl, hk⟩; exact ⟨rfl, hk⟩)
theorem A.cSl3 {G : GW} {rm rm' : Room} {M M' : MR} {kw mw : Nat × Nat} {pc q idx : Nat} {L : List (Option Value)} {S : List Value} {σ : St} {Q : Option Value → HD → St → Prop} {a1 a2 a3 : Value} (hd : Ix M pc q (.invokestatic idx) 3) (ok : OkS M' 3) (hlk : Cond.methodLink M.1.cls idx M'.1 ∈ gt) (hc : Cl G rm' M' [a1, a2, a3] σ (fun r σ' => A G rm M kw mw q L (.long r :: S) hd0 σ' Q)) (hcat : (S.map (fun v => v.category)).sum ≤ 8 := by exact Nat.le_of_ble_eq_true rfl) (hr : Rm rm rm' M' kw (0, 0) := by exact ⟨rfl, rfl, Nat.le_of_ble_eq_true rfl, Nat.le_of_ble_eq_true rfl, Nat.le_of_ble_eq_true rfl, Nat.le_of_ble_eq_true rfl⟩) : A G rm M kw mw pc L (a3 :: a2 :: a1 :: S) hd0 σ Q := A.callS (As := [a1, a2, a3]) hd ok hlk rfl rfl hcat hr hc (by rintro v h' σ' ⟨rfl, r, rfl, hk⟩; exact ⟨rfl, hk⟩)
theorem A.cVl3 {G : GW} {rm rm' : Room} {M M' : MR} {kw mw : Nat × Nat} {pc q idx : Nat} {L : List (Option Value)} {S : List Value} {σ : St} {Q : Option Value → HD → St → Prop} {a1 a2 a3 : Value} {k c0 : Nat} (hd : Ix M pc q (.invokevirtual idx) 3) (ok : OkV M' 3) (hlk : Cond.methodLink M.1.cls idx M'.1 ∈ gt) (hk : Ko hd0 k c0) (hc : Cl G rm' M' (rf G k :: [a1, a2, a3]) σ (fun r σ' => A G rm M kw mw q L (.long r :: S) hd0 σ' Q)) (hcl : c0 < 6 ∧ (cq c0).1 = M'.1.cls := by exact ⟨Nat.le_of_ble_eq_true rfl, rfl⟩) (hcat : (S.map (fun v => v.category)).sum ≤ 8 := by exact Nat.le_of_ble_eq_true rfl) (hr : Rm rm rm' M' kw (0, 0) := by exact ⟨rfl, rfl, Nat.le_of_ble_eq_true rfl, Nat.le_of_ble_eq_true rfl, Nat.le_of_ble_eq_true rfl, Nat.le_of_ble_eq_true rfl⟩) : A G rm M kw mw pc L (a3 :: a2 :: a1 :: rf G k :: S) hd0 σ Q := A.callV (As := [a1, a2, a3]) hd ok hlk hk hcl rfl rfl hcat hr hc (by rintro v h' σ' ⟨rfl, r, rfl, hk⟩; exact ⟨rfl, hk⟩)
theorem A.cSl4 {G : GW} {rm rm' : Room} {M M' : MR} {kw mw : Nat × Nat} {pc q idx : Nat} {L : List (Option Value)} {S : List Value} {σ : St} {Q : Option Value → HD → St → Prop} {a1 a2 a3 a4 : Value} (hd : Ix M pc q (.invokestatic idx) 3) (ok : OkS M' 4) (hlk : Cond.methodLink M.1.cls idx M'.1 ∈ gt) (hc : Cl G rm' M' [a1, a2, a3, a4] σ (fun r σ' => A G rm M kw mw q L (.long r :: S) hd0 σ' Q)) (hcat : (S.map (fun v => v.category)).sum ≤ 8 := by exact Nat.le_of_ble_eq_true rfl) (hr : Rm rm rm' M' kw (0, 0) := by exact ⟨rfl, rfl, Nat.le_of_ble_eq_true rfl, Nat.le_of_ble_eq_true rfl, Nat.le_of_ble_eq_true rfl, Nat.le_of_ble_eq_true rfl⟩) : A G rm M kw mw pc L (a4 :: a3 :: a2 :: a1 :: S) hd0 σ Q := A.callS (As := [a1, a2, a3, a4]) hd ok hlk rfl rfl hcat hr hc (by rintro v h' σ' ⟨rfl, r, rfl, hk⟩; exact ⟨rfl, hk⟩)
theorem A.cVl4 {G : GW} {rm rm' : Room} {M M' : MR} {kw mw : Nat × Nat} {pc q idx : Nat} {L : List (Option Value)} {S : List Value} {σ : St} {Q : Option Value → HD → St → Prop} {a1 a2 a3 a4 : Value} {k c0 : Nat} (hd : Ix M pc q (.invokevirtual idx) 3) (ok : OkV M' 4) (hlk : Cond.methodLink M.1.cls idx M'.1 ∈ gt) (hk : Ko hd0 k c0) (hc : Cl G rm' M' (rf G k :: [a1, a2, a3, a4]) σ (fun r σ' => A G rm M kw mw q L (.long r :: S) hd0 σ' Q)) (hcl : c0 < 6 ∧ (cq c0).1 = M'.1.cls := by exact ⟨Nat.le_of_ble_eq_true rfl, rfl⟩) (hcat : (S.map (fun v => v.category)).sum ≤ 8 := by exact Nat.le_of_ble_eq_true rfl) (hr : Rm rm rm' M' kw (0, 0) := by exact ⟨rfl, rfl, Nat.le_of_ble_eq_true rfl, Nat.le_of_ble_eq_true rfl, Nat.le_of_ble_eq_true rfl, Nat.le_of_ble_eq_true rfl⟩) : A G rm M kw mw pc L (a4 :: a3 :: a2 :: a1 :: rf G k :: S) hd0 σ Q := A.callV (As := [a1, a2, a3, a4]) hd ok hlk hk hcl rfl rfl hcat hr hc (by rintro v h' σ' ⟨rfl, r, rfl, hk⟩; exact ⟨rfl, hk⟩)
theorem A.cSl5 {G : GW} {rm rm' : Room} {M M' : MR} {kw mw : Nat × Nat} {pc q idx : Nat} {L : List (Option Value)} {S : List Value} {σ : St} {Q : Option Value → HD → St → Prop} {a1 a2 a3 a4 a5 : Value} (hd : Ix M pc q (.invokestatic idx) 3) (ok : OkS M' 5) (hlk : Cond.methodLink M.1.cls idx M'.1 ∈ gt) (hc : Cl G rm' M' [a1, a2, a3, a4, a5] σ (fun r σ' => A G rm M kw mw q L (.long r :: S) hd0 σ' Q)) (hcat : (S.map (fun v => v.category)).sum ≤ 8 := by exact Nat.le_of_ble_eq_true rfl) (hr : Rm rm rm' M' kw (0, 0) := by exact ⟨rfl, rfl, Nat.le_of_ble_eq_true rfl, Nat.le_of_ble_eq_true rfl, Nat.le_of_ble_eq_true rfl, Nat.le_of_ble_eq_true rfl⟩) : A G rm M kw mw pc L (a5 :: a4 :: a3 :: a2 :: a1 :: S) hd0 σ Q := A.callS (As := [a1, a2, a3, a4, a5]) hd ok hlk rfl rfl hcat hr hc (by rintro v h' σ' ⟨rfl, r, rfl, hk⟩; exact ⟨rfl, hk⟩)
theorem A.cVl5 {G : GW} {rm rm' : Room} {M M' : MR} {kw mw : Nat × Nat} {pc q idx : Nat} {L : List (Option Value)} {S : List Value} {σ : St} {Q : Option Value → HD → St → Prop} {a1 a2 a3 a4 a5 : Value} {k c0 : Nat} (hd : Ix M pc q (.invokevirtual idx) 3) (ok : OkV M' 5) (hlk : Cond.methodLink M.1.cls idx M'.1 ∈ gt) (hk : Ko hd0 k c0) (hc : Cl G rm' M' (rf G k :: [a1, a2, a3, a4, a5]) σ (fun r σ' => A G rm M kw mw q L (.long r :: S) hd0 σ' Q)) (hcl : c0 < 6 ∧ (cq c0).1 = M'.1.cls := by exact ⟨Nat.le_of_ble_eq_true rfl, rfl⟩) (hcat : (S.map (fun v => v.category)).sum ≤ 8 := by exact Nat.le_of_ble_eq_true rfl) (hr : Rm rm rm' M' kw (0, 0) := by exact ⟨rfl, rfl, Nat.le_of_ble_eq_true rfl, Nat.le_of_ble_eq_true rfl, Nat.le_of_ble_eq_true rfl, Nat.le_of_ble_eq_true rfl⟩) : A G rm M kw mw pc L (a5 :: a4 :: a3 :: a2 :: a1 :: rf G k :: S) hd0 σ Q := A.callV (As := [a1, a2, a3, a4, a5]) hd ok hlk hk hcl rfl rfl hcat hr hc (by rintro v h' σ' ⟨rfl, r, rfl, hk⟩; exact ⟨rfl, hk⟩)
theorem A.cVa0 {G : GW} {rm rm' : Room} {M M' : MR} {kw mw : Nat × Nat} {pc q idx : Nat} {L : List (Option Value)} {S : List Value} {σ : St} {Q : Option Value → HD → St → Prop} {k c0 : Nat} (hd : Ix M pc q (.invokevirtual idx) 3) (ok : OkV M' 0) (hlk : Cond.methodLink M.1.cls idx M'.1 ∈ gt) (hk : Ko hd0 k c0) (hc : Ca G rm' M' (rf G k :: []) σ (fun r σ' => A G rm M kw mw q L (r :: S) hd0 σ' Q)) (hcl : c0 < 6 ∧ (cq c0).1 = M'.1.cls := by exact ⟨Nat.le_of_ble_eq_true rfl, rfl⟩) (hcat : (S.map (fun v => v.category)).sum ≤ 8 := by exact Nat.le_of_ble_eq_true rfl) (hr : Rm rm rm' M' kw (0, 0) := by exact ⟨rfl, rfl, Nat.le_of_ble_eq_true rfl, Nat.le_of_ble_eq_true rfl, Nat.le_of_ble_eq_true rfl, Nat.le_of_ble_eq_true rfl⟩) : A G rm M kw mw pc L (rf G k :: S) hd0 σ Q := A.callV (As := []) hd ok hlk hk hcl rfl rfl hcat hr hc (by rintro v h' σ' ⟨rfl, r, rfl, hk⟩; exact ⟨rfl, hk⟩)
theorem A.cVa1 {G : GW} {rm rm' : Room} {M M' : MR} {kw mw : Nat × Nat} {pc q idx : Nat} {L : List (Option Value)} {S : List Value} {σ : St} {Q : Option Value → HD → St → Prop} {a1 : Value} {k c0 : Nat} (hd : Ix M pc q (.invokevirtual idx) 3) (ok : OkV M' 1) (hlk : Cond.methodLink M.1.cls idx M'.1 ∈ gt) (hk : Ko hd0 k c0) (hc : Ca G rm' M' (rf G k :: [a1]) σ (fun r σ' => A G rm M kw mw q L (r :: S) hd0 σ' Q)) (hcl : c0 < 6 ∧ (cq c0).1 = M'.1.cls := by exact ⟨Nat.le_of_ble_eq_true rfl, rfl⟩) (hcat : (S.map (fun v => v.category)).sum ≤ 8 := by exact Nat.le_of_ble_eq_true rfl) (hr : Rm rm rm' M' kw (0, 0) := by exact ⟨rfl, rfl, Nat.le_of_ble_eq_true rfl, Nat.le_of_ble_eq_true rfl, Nat.le_of_ble_eq_true rfl, Nat.le_of_ble_eq_true rfl⟩) : A G rm M kw mw pc L (a1 :: rf G k :: S) hd0 σ Q := A.callV (As := [a1]) hd ok hlk hk hcl rfl rfl hcat hr hc (by rintro v h' σ' ⟨rfl, r, rfl, hk⟩; exact ⟨rfl, hk⟩)
theorem A.cVa2 {G : GW} {rm rm' : Room} {M M' : MR} {kw mw : Nat × Nat} {pc q idx : Nat} {L : List (Option Value)} {S : List Value} {σ : St} {Q : Option Value → HD → St → Prop} {a1 a2 : Value} {k c0 : Nat} (hd : Ix M pc q (.invokevirtual idx) 3) (ok : OkV M' 2) (hlk : Cond.methodLink M.1.cls idx M'.1 ∈ gt) (hk : Ko hd0 k c0) (hc : Ca G rm' M' (rf G k :: [a1, a2]) σ (fun r σ' => A G rm M kw mw q L (r :: S) hd0 σ' Q)) (hcl : c0 < 6 ∧ (cq c0).1 = M'.1.cls := by exact ⟨Nat.le_of_ble_eq_true rfl, rfl⟩) (hcat : (S.map (fun v => v.category)).sum ≤ 8 := by exact Nat.le_of_ble_eq_true rfl) (hr : Rm rm rm' M' kw (0, 0) := by exact ⟨rfl, rfl, Nat.le_of_ble_eq_true rfl, Nat.le_of_ble_eq_true rfl, Nat.le_of_ble_eq_true rfl, Nat.le_of_ble_eq_true rfl⟩) : A G rm M kw mw pc L (a2 :: a1 :: rf G k :: S) hd0 σ Q := A.callV (As := [a1, a2]) hd ok hlk hk hcl rfl rfl hcat hr hc (by rintro v h' σ' ⟨rfl, r, rfl, hk⟩; exact ⟨rfl, hk⟩)
theorem A.cVa3 {G : GW} {rm rm' : Room} {M M' : MR} {kw mw : Nat × Nat} {pc q idx : Nat} {L : List (Option Value)} {S : List Value} {σ : St} {Q : Option Value → HD → St → Prop} {a1 a2 a3 : Value} {k c0 : Nat} (hd : Ix M pc q (.invokevirtual idx) 3) (ok : OkV M' 3) (hlk : Cond.methodLink M.1.cls idx M'.1 ∈ gt) (hk : Ko hd0 k c0) (hc : Ca G rm' M' (rf G k :: [a1, a2, a3]) σ (fun r σ' => A G rm M kw mw q L (r :: S) hd0 σ' Q)) (hcl : c0 < 6 ∧ (cq c0).1 = M'.1.cls := by exact ⟨Nat.le_of_ble_eq_true rfl, rfl⟩) (hcat : (S.map (fun v => v.category)).sum ≤ 8 := by exact Nat.le_of_ble_eq_true rfl) (hr : Rm rm rm' M' kw (0, 0) := by exact ⟨rfl, rfl, Nat.le_of_ble_eq_true rfl, Nat.le_of_ble_eq_true rfl, Nat.le_of_ble_eq_true rfl, Nat.le_of_ble_eq_true rfl⟩) : A G rm M kw mw pc L (a3 :: a2 :: a1 :: rf G k :: S) hd0 σ Q := A.callV (As := [a1, a2, a3]) hd ok hlk hk hcl rfl rfl hcat hr hc (by rintro v h' σ' ⟨rfl, r, rfl, hk⟩; exact ⟨rfl, hk⟩)
theorem A.cVa4 {G : GW} {rm rm' : Room} {M M' : MR} {kw mw : Nat × Nat} {pc q idx : Nat} {L : List (Option Value)} {S : List Value} {σ : St} {Q : Option Value → HD → St → Prop} {a1 a2 a3 a4 : Value} {k c0 : Nat} (hd : Ix M pc q (.invokevirtual idx) 3) (ok : OkV M' 4) (hlk : Cond.methodLink M.1.cls idx M'.1 ∈ gt) (hk : Ko hd0 k c0) (hc : Ca G rm' M' (rf G k :: [a1, a2, a3, a4]) σ (fun r σ' => A G rm M kw mw q L (r :: S) hd0 σ' Q)) (hcl : c0 < 6 ∧ (cq c0).1 = M'.1.cls := by exact ⟨Nat.le_of_ble_eq_true rfl, rfl⟩) (hcat : (S.map (fun v => v.category)).sum ≤ 8 := by exact Nat.le_of_ble_eq_true rfl) (hr : Rm rm rm' M' kw (0, 0) := by exact ⟨rfl, rfl, Nat.le_of_ble_eq_true rfl, Nat.le_of_ble_eq_true rfl, Nat.le_of_ble_eq_true rfl, Nat.le_of_ble_eq_true rfl⟩) : A G rm M kw mw pc L (a4 :: a3 :: a2 :: a1 :: rf G k :: S) hd0 σ Q := A.callV (As := [a1, a2, a3, a4]) hd ok hlk hk hcl rfl rfl hcat hr hc (by rintro v h' σ' ⟨rfl, r, rfl, hk⟩; exact ⟨rfl, hk⟩)
theorem A.cVa5 {G : GW} {rm rm' : Room} {M M' : MR} {kw mw : Nat × Nat} {pc q idx : Nat} {L : List (Option Value)} {S : List Value} {σ : St} {Q : Option Value → HD → St → Prop} {a1 a2 a3 a4 a5 : Value} {k c0 : Nat} (hd : Ix M pc q (.invokevirtual idx) 3) (ok : OkV M' 5) (hlk : Cond.methodLink M.1.cls idx M'.1 ∈ gt) (hk : Ko hd0 k c0) (hc : Ca G rm' M' (rf G k :: [a1, a2, a3, a4, a5]) σ (fun r σ' => A G rm M kw mw q L (r :: S) hd0 σ' Q)) (hcl : c0 < 6 ∧ (cq c0).1 = M'.1.cls := by exact ⟨Nat.le_of_ble_eq_true rfl, rfl⟩) (hcat : (S.map (fun v => v.category)).sum ≤ 8 := by exact Nat.le_of_ble_eq_true rfl) (hr : Rm rm rm' M' kw (0, 0) := by exact ⟨rfl, rfl, Nat.le_of_ble_eq_true rfl, Nat.le_of_ble_eq_true rfl, Nat.le_of_ble_eq_true rfl, Nat.le_of_ble_eq_true rfl⟩) : A G rm M kw mw pc L (a5 :: a4 :: a3 :: a2 :: a1 :: rf G k :: S) hd0 σ Q := A.callV (As := [a1, a2, a3, a4, a5]) hd ok hlk hk hcl rfl rfl hcat hr hc (by rintro v h' σ' ⟨rfl, r, rfl, hk⟩; exact ⟨rfl, hk⟩)
theorem A.cSv0 {G : GW} {rm rm' : Room} {M M' : MR} {kw mw : Nat × Nat} {pc q idx : Nat} {L : List (Option Value)} {S : List Value} {σ : St} {Q : Option Value → HD → St → Prop} (hd : Ix M pc q (.invokestatic idx) 3) (ok : OkS M' 0) (hlk : Cond.methodLink M.1.cls idx M'.1 ∈ gt) (hc : Cv G rm' M' [] σ (fun σ' => A G rm M kw mw q L S hd0 σ' Q)) (hcat : (S.map (fun v => v.category)).sum ≤ 8 := by exact Nat.le_of_ble_eq_true rfl) (hr : Rm rm rm' M' kw (0, 0) := by exact ⟨rfl, rfl, Nat.le_of_ble_eq_true rfl, Nat.le_of_ble_eq_true rfl, Nat.le_of_ble_eq_true rfl, Nat.le_of_ble_eq_true rfl⟩) : A G rm M kw mw pc L (S) hd0 σ Q := A.callS (As := []) hd ok hlk rfl rfl hcat hr hc (by rintro v h' σ' ⟨rfl, rfl, hk⟩; exact ⟨rfl, hk⟩)
theorem A.cVv0 {G : GW} {rm rm' : Room} {M M' : MR} {kw mw : Nat × Nat} {pc q idx : Nat} {L : List (Option Value)} {S : List Value} {σ : St} {Q : Option Value → HD → St → Prop} {k c0 : Nat} (hd : Ix M pc q (.invokevirtual idx) 3) (ok : OkV M' 0) (hlk : Cond.methodLink M.1.cls idx M'.1 ∈ gt) (hk : Ko hd0 k c0) (hc : Cv G rm' M' (rf G k :: []) σ (fun σ' => A G rm M kw mw q L S hd0 σ' Q)) (hcl : c0 < 6 ∧ (cq c0).1 = M'.1.cls := by exact ⟨Nat.le_of_ble_eq_true rfl, rfl⟩) (hcat : (S.map (fun v => v.category)).sum ≤ 8 := by exact Nat.le_of_ble_eq_true rfl) (hr : Rm rm rm' M' kw (0, 0) := by exact ⟨rfl, rfl, Nat.le_of_ble_eq_true rfl, Nat.le_of_ble_eq_true rfl, Nat.le_of_ble_eq_true rfl, Nat.le_of_ble_eq_true rfl⟩) : A G rm M kw mw pc L (rf G k :: S) hd0 σ Q := A.callV (As := []) hd ok hlk hk hcl rfl rfl hcat hr hc (by rintro v h' σ' ⟨rfl, rfl, hk⟩; exact ⟨rfl, hk⟩)
theorem A.cSv1 {G : GW} {rm rm' : Room} {M M' : MR} {kw mw : Nat × Nat} {pc q idx : Nat} {L : List (Option Value)} {S : List Value} {σ : St} {Q : Option Value → HD → St → Prop} {a1 : Value} (hd : Ix M pc q (.invokestatic idx) 3) (ok : OkS M' 1) (hlk : Cond.methodLink M.1.cls idx M'.1 ∈ gt) (hc : Cv G rm' M' [a1] σ (fun σ' => A G rm M kw mw q L S hd0 σ' Q)) (hcat : (S.map (fun v => v.category)).sum ≤ 8 := by exact Nat.le_of_ble_eq_true rfl) (hr : Rm rm rm' M' kw (0, 0) := by exact ⟨rfl, rfl, Nat.le_of_ble_eq_true rfl, Nat.le_of_ble_eq_true rfl, Nat.le_of_ble_eq_true rfl, Nat.le_of_ble_eq_true rfl⟩) : A G rm M kw mw pc L (a1 :: S) hd0 σ Q := A.callS (As := [a1]) hd ok hlk rfl rfl hcat hr hc (by rintro v h' σ' ⟨rfl, rfl, hk⟩; exact ⟨rfl, hk⟩)
theorem A.cVv1 {G : GW} {rm rm' : Room} {M M' : MR} {kw mw : Nat × Nat} {pc q idx : Nat} {L : List (Option Value)} {S : List Value} {σ : St} {Q : Option Value → HD → St → Prop} {a1 : Value} {k c0 : Nat} (hd : Ix M pc q (.invokevirtual idx) 3) (ok : OkV M' 1) (hlk : Cond.methodLink M.1.cls idx M'.1 ∈ gt) (hk : Ko hd0 k c0) (hc : Cv G rm' M' (rf G k :: [a1]) σ (fun σ' => A G rm M kw mw q L S hd0 σ' Q)) (hcl : c0 < 6 ∧ (cq c0).1 = M'.1.cls := by exact ⟨Nat.le_of_ble_eq_true rfl, rfl⟩) (hcat : (S.map (fun v => v.category)).sum ≤ 8 := by exact Nat.le_of_ble_eq_true rfl) (hr : Rm rm rm' M' kw (0, 0) := by exact ⟨rfl, rfl, Nat.le_of_ble_eq_true rfl, Nat.le_of_ble_eq_true rfl, Nat.le_of_ble_eq_true rfl, Nat.le_of_ble_eq_true rfl⟩) : A G rm M kw mw pc L (a1 :: rf G k :: S) hd0 σ Q := A.callV (As := [a1]) hd ok hlk hk hcl rfl rfl hcat hr hc (by rintro v h' σ' ⟨rfl, rfl, hk⟩; exact ⟨rfl, hk⟩)
theorem A.cSv2 {G : GW} {rm rm' : Room} {M M' : MR} {kw mw : Nat × Nat} {pc q idx : Nat} {L : List (Option Value)} {S : List Value} {σ : St} {Q : Option Value → HD → St → Prop} {a1 a2 : Value} (hd : Ix M pc q (.invokestatic idx) 3) (ok : OkS M' 2) (hlk : Cond.methodLink M.1.cls idx M'.1 ∈ gt) (hc : Cv G rm' M' [a1, a2] σ (fun σ' => A G rm M kw mw q L S hd0 σ' Q)) (hcat : (S.map (fun v => v.category)).sum ≤ 8 := by exact Nat.le_of_ble_eq_true rfl) (hr : Rm rm rm' M' kw (0, 0) := by exact ⟨rfl, rfl, Nat.le_of_ble_eq_true rfl, Nat.le_of_ble_eq_true rfl, Nat.le_of_ble_eq_true rfl, Nat.le_of_ble_eq_true rfl⟩) : A G rm M kw mw pc L (a2 :: a1 :: S) hd0 σ Q := A.callS (As := [a1, a2]) hd ok hlk rfl rfl hcat hr hc (by rintro v h' σ' ⟨rfl, rfl, hk⟩; exact ⟨rfl, hk⟩)
theorem A.cVv2 {G : GW} {rm rm' : Room} {M M' : MR} {kw mw : Nat × Nat} {pc q idx : Nat} {L : List (Option Value)} {S : List Value} {σ : St} {Q : Option Value → HD → St → Prop} {a1 a2 : Value} {k c0 : Nat} (hd : Ix M pc q (.invokevirtual idx) 3) (ok : OkV M' 2) (hlk : Cond.methodLink M.1.cls idx M'.1 ∈ gt) (hk : Ko hd0 k c0) (hc : Cv G rm' M' (rf G k :: [a1, a2]) σ (fun σ' => A G rm M kw mw q L S hd0 σ' Q)) (hcl : c0 < 6 ∧ (cq c0).1 = M'.1.cls := by exact ⟨Nat.le_of_ble_eq_true rfl, rfl⟩) (hcat : (S.map (fun v => v.category)).sum ≤ 8 := by exact Nat.le_of_ble_eq_true rfl) (hr : Rm rm rm' M' kw (0, 0) := by exact ⟨rfl, rfl, Nat.le_of_ble_eq_true rfl, Nat.le_of_ble_eq_true rfl, Nat.le_of_ble_eq_true rfl, Nat.le_of_ble_eq_true rfl⟩) : A G rm M kw mw pc L (a2 :: a1 :: rf G k :: S) hd0 σ Q := A.callV (As := [a1, a2]) hd ok hlk hk hcl rfl rfl hcat hr hc (by rintro v h' σ' ⟨rfl, rfl, hk⟩; exact ⟨rfl, hk⟩)
theorem A.cSv3 {G : GW} {rm rm' : Room} {M M' : MR} {kw mw : Nat × Nat} {pc q idx : Nat} {L : List (Option Value)} {S : List Value} {σ : St} {Q : Option Value → HD → St → Prop} {a1 a2 a3 : Value} (hd : Ix M pc q (.invokestatic idx) 3) (ok : OkS M' 3) (hlk : Cond.methodLink M.1.cls idx M'.1 ∈ gt) (hc : Cv G rm' M' [a1, a2, a3] σ (fun σ' => A G rm M kw mw q L S hd0 σ' Q)) (hcat : (S.map (fun v => v.category)).sum ≤ 8 := by exact Nat.le_of_ble_eq_true rfl) (hr : Rm rm rm' M' kw (0, 0) := by exact ⟨rfl, rfl, Nat.le_of_ble_eq_true rfl, Nat.le_of_ble_eq_true rfl, Nat.le_of_ble_eq_true rfl, Nat.le_of_ble_eq_true rfl⟩) : A G rm M kw mw pc L (a3 :: a2 :: a1 :: S) hd0 σ Q := A.callS (As := [a1, a2, a3]) hd ok hlk rfl rfl hcat hr hc (by rintro v h' σ' ⟨rfl, rfl, hk⟩; exact ⟨rfl, hk⟩)
theorem A.cVv3 {G : GW} {rm rm' : Room} {M M' : MR} {kw mw : Nat × Nat} {pc q idx : Nat} {L : List (Option Value)} {S : List Value} {σ : St} {Q : Option Value → HD → St → Prop} {a1 a2 a3 : Value} {k c0 : Nat} (hd : Ix M pc q (.invokevirtual idx) 3) (ok : OkV M' 3) (hlk : Cond.methodLink M.1.cls idx M'.1 ∈ gt) (hk : Ko hd0 k c0) (hc : Cv G rm' M' (rf G k :: [a1, a2, a3]) σ (fun σ' => A G rm M kw mw q L S hd0 σ' Q)) (hcl : c0 < 6 ∧ (cq c0).1 = M'.1.cls := by exact ⟨Nat.le_of_ble_eq_true rfl, rfl⟩) (hcat : (S.map (fun v => v.category)).sum ≤ 8 := by exact Nat.le_of_ble_eq_true rfl) (hr : Rm rm rm' M' kw (0, 0) := by exact ⟨rfl, rfl, Nat.le_of_ble_eq_true rfl, Nat.le_of_ble_eq_true rfl, Nat.le_of_ble_eq_true rfl, Nat.le_of_ble_eq_true rfl⟩) : A G rm M kw mw pc L (a3 :: a2 :: a1 :: rf G k :: S) hd0 σ Q := A.callV (As := [a1, a2, a3]) hd ok hlk hk hcl rfl rfl hcat hr hc (by rintro v h' σ' ⟨rfl, rfl, hk⟩; exact ⟨rfl, hk⟩)
theorem A.cSv4 {G : GW} {rm rm' : Room} {M M' : MR} {kw mw : Nat × Nat} {pc q idx : Nat} {L : List (Option Value)} {S : List Value} {σ : St} {Q : Option Value → HD → St → Prop} {a1 a2 a3 a4 : Value} (hd : Ix M pc q (.invokestatic idx) 3) (ok : OkS M' 4) (hlk : Cond.methodLink M.1.cls idx M'.1 ∈ gt) (hc : Cv G rm' M' [a1, a2, a3, a4] σ (fun σ' => A G rm M kw mw q L S hd0 σ' Q)) (hcat : (S.map (fun v => v.category)).sum ≤ 8 := by exact Nat.le_of_ble_eq_true rfl) (hr : Rm rm rm' M' kw (0, 0) := by exact ⟨rfl, rfl, Nat.le_of_ble_eq_true rfl, Nat.le_of_ble_eq_true rfl, Nat.le_of_ble_eq_true rfl, Nat.le_of_ble_eq_true rfl⟩) : A G rm M kw mw pc L (a4 :: a3 :: a2 :: a1 :: S) hd0 σ Q := A.callS (As := [a1, a2, a3, a4]) hd ok hlk rfl rfl hcat hr hc (by rintro v h' σ' ⟨rfl, rfl, hk⟩; exact ⟨rfl, hk⟩)
theorem A.cVv4 {G : GW} {rm rm' : Room} {M M' : MR} {kw mw : Nat × Nat} {pc q idx : Nat} {L : List (Option Value)} {S : List Value} {σ : St} {Q : Option Value → HD → St → Prop} {a1 a2 a3 a4 : Value} {k c0 : Nat} (hd : Ix M pc q (.invokevirtual idx) 3) (ok : OkV M' 4) (hlk : Cond.methodLink M.1.cls idx M'.1 ∈ gt) (hk : Ko hd0 k c0) (hc : Cv G rm' M' (rf G k :: [a1, a2, a3, a4]) σ (fun σ' => A G rm M kw mw q L S hd0 σ' Q)) (hcl : c0 < 6 ∧ (cq c0).1 = M'.1.cls := by exact ⟨Nat.le_of_ble_eq_true rfl, rfl⟩) (hcat : (S.map (fun v => v.category)).sum ≤ 8 := by exact Nat.le_of_ble_eq_true rfl) (hr : Rm rm rm' M' kw (0, 0) := by exact ⟨rfl, rfl, Nat.le_of_ble_eq_true rfl, Nat.le_of_ble_eq_true rfl, Nat.le_of_ble_eq_true rfl, Nat.le_of_ble_eq_true rfl⟩) : A G rm M kw mw pc L (a4 :: a3 :: a2 :: a1 :: rf G k :: S) hd0 σ Q := A.callV (As := [a1, a2, a3, a4]) hd ok hlk hk hcl rfl rfl hcat hr hc (by rintro v h' σ' ⟨rfl, rfl, hk⟩; exact ⟨rfl, hk⟩)
theorem A.cSv5 {G : GW} {rm rm' : Room} {M M' : MR} {kw mw : Nat × Nat} {pc q idx : Nat} {L : List (Option Value)} {S : List Value} {σ : St} {Q : Option Value → HD → St → Prop} {a1 a2 a3 a4 a5 : Value} (hd : Ix M pc q (.invokestatic idx) 3) (ok : OkS M' 5) (hlk : Cond.methodLink M.1.cls idx M'.1 ∈ gt) (hc : Cv G rm' M' [a1, a2, a3, a4, a5] σ (fun σ' => A G rm M kw mw q L S hd0 σ' Q)) (hcat : (S.map (fun v => v.category)).sum ≤ 8 := by exact Nat.le_of_ble_eq_true rfl) (hr : Rm rm rm' M' kw (0, 0) := by exact ⟨rfl, rfl, Nat.le_of_ble_eq_true rfl, Nat.le_of_ble_eq_true rfl, Nat.le_of_ble_eq_true rfl, Nat.le_of_ble_eq_true rfl⟩) : A G rm M kw mw pc L (a5 :: a4 :: a3 :: a2 :: a1 :: S) hd0 σ Q := A.callS (As := [a1, a2, a3, a4, a5]) hd ok hlk rfl rfl hcat hr hc (by rintro v h' σ' ⟨rfl, rfl, hk⟩; exact ⟨rfl, hk⟩)
theorem A.cVv5 {G : GW} {rm rm' : Room} {M M' : MR} {kw mw : Nat × Nat} {pc q idx : Nat} {L : List (Option Value)} {S : List Value} {σ : St} {Q : Option Value → HD → St → Prop} {a1 a2 a3 a4 a5 : Value} {k c0 : Nat} (hd : Ix M pc q (.invokevirtual idx) 3) (ok : OkV M' 5) (hlk : Cond.methodLink M.1.cls idx M'.1 ∈ gt) (hk : Ko hd0 k c0) (hc : Cv G rm' M' (rf G k :: [a1, a2, a3, a4, a5]) σ (fun σ' => A G rm M kw mw q L S hd0 σ' Q)) (hcl : c0 < 6 ∧ (cq c0).1 = M'.1.cls := by exact ⟨Nat.le_of_ble_eq_true rfl, rfl⟩) (hcat : (S.map (fun v => v.category)).sum ≤ 8 := by exact Nat.le_of_ble_eq_true rfl) (hr : Rm rm rm' M' kw (0, 0) := by exact ⟨rfl, rfl, Nat.le_of_ble_eq_true rfl, Nat.le_of_ble_eq_true rfl, Nat.le_of_ble_eq_true rfl, Nat.le_of_ble_eq_true rfl⟩) : A G rm M kw mw pc L (a5 :: a4 :: a3 :: a2 :: a1 :: rf G k :: S) hd0 σ Q := A.callV (As := [a1, a2, a3, a4, a5]) hd ok hlk hk hcl rfl rfl hcat hr hc (by rintro v h' σ' ⟨rfl, rfl, hk⟩; exact ⟨rfl, hk⟩)
theorem A.cNi2 {G : GW} {rm rm' : Room} {M M' : MR} {kw mw : Nat × Nat} {pc q idx : Nat} {L : List (Option Value)} {S : List Value} {σ : St} {Q : Option Value → HD → St → Prop} {a1 a2 : Value} {host : String} (hd : Ix M pc q (.invokestatic idx) 3) (ok : OkS M' 2) (hlk : ∀ s, VS G s → va_Nw (.methodLinkNest M.1.cls idx M'.1 host) s) (hc : Ci G rm' M' [a1, a2] σ (fun r σ' => A G rm M kw mw q L (.int r :: S) hd0 σ' Q)) (hcat : (S.map (fun v => v.category)).sum ≤ 8 := by exact Nat.le_of_ble_eq_true rfl) (hr : Rm rm rm' M' kw (0, 0) := by exact ⟨rfl, rfl, Nat.le_of_ble_eq_true rfl, Nat.le_of_ble_eq_true rfl, Nat.le_of_ble_eq_true rfl, Nat.le_of_ble_eq_true rfl⟩) : A G rm M kw mw pc L (a2 :: a1 :: S) hd0 σ Q := A.callN (As := [a1, a2]) hd ok hlk rfl rfl hcat hr hc (by rintro v h' σ' ⟨rfl, r, rfl, hk⟩; exact ⟨rfl, hk⟩)
