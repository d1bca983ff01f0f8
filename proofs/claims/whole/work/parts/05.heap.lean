/-! ===== rows for fields, arrays ===== -/
def Ko (h : HD) (k c : Nat) : Prop := k < h.1 ∧ (h.2.1 k).1 = c + 3
def Ka (h : HD) (k n : Nat) : Prop := k < h.1 ∧ h.2.1 k = (0, n)
def Kj (h : HD) (k n : Nat) : Prop := k < h.1 ∧ h.2.1 k = (1, n)
def Kq (h : HD) (k n : Nat) : Prop := k < h.1 ∧ h.2.1 k = (2, n)
theorem gw_all {c : Nat} (hc : c < 6) : cl0[c]? = some (cq c) ∧ (∀ w ∈ u_ws (cq c).1 (cq c).2.1 (cq c).2.2, w ∈ gt) ∧ (∃ ty : Nat → FieldType, ∀ k, k < (cq c).2.2 → parseFieldDescriptor ((cq c).2.1 k).2.2.1 = some (ty k)) ∧ (∀ a, a < (cq c).2.2 → ∀ b, b < (cq c).2.2 → a ≠ b → ((cq c).2.1 a).2.1 ≠ ((cq c).2.1 b).2.1) := by
  match c, hc with
  | 0, _ => exact ⟨rfl, gw0, ⟨_, tyX0_ok⟩, nmX0⟩
  | 1, _ => exact ⟨rfl, gw1, ⟨_, tyX1_ok⟩, nmX1⟩
  | 2, _ => exact ⟨rfl, gw2, ⟨_, tyX2_ok⟩, nmX2⟩
  | 3, _ => exact ⟨rfl, gw3, ⟨_, tyX3_ok⟩, nmX3⟩
  | 4, _ => exact ⟨rfl, gw4, ⟨_, tyX4_ok⟩, nmX4⟩
  | 5, _ => exact ⟨rfl, gw5, ⟨_, tyX5_ok⟩, nmX5⟩
theorem wls_obj {G : GW} {h : HD} {σ : St} {k c : Nat} (hk : Ko h k c) : (wls G h σ)[k]? = some (gB G + k, .inr (c, (List.range (cq c).2.2).map (fv G h σ k c))) := by
  rw [wls_at hk.1]
  simp only [wc, hk.2]
theorem wls_ia {G : GW} {h : HD} {σ : St} {k n : Nat} (hk : Ka h k n) : (wls G h σ)[k]? = some (gB G + k, .inl (gI G, n, .inl (σ.1 k))) := by
  rw [wls_at hk.1]
  simp [wc, hk.2]
theorem wls_ja {G : GW} {h : HD} {σ : St} {k n : Nat} (hk : Kj h k n) : (wls G h σ)[k]? = some (gB G + k, .inl (gJ G, n, .inr (.inl (σ.2 k)))) := by
  rw [wls_at hk.1]
  simp [wc, hk.2]
theorem wls_qa {G : GW} {h : HD} {σ : St} {k n : Nat} (hk : Kq h k n) : (wls G h σ)[k]? = some (gB G + k, .inl (gS G, n, .inr (.inr (.inr (.inr (fun j => (h.2.2 k j).map (fun r => gB G + r))))))) := by
  rw [wls_at hk.1]
  simp [wc, hk.2]
/-- a reference put into a field or a row of references -/
def uR (h : HD) (k j r : Nat) : HD := (h.1, h.2.1, fun k' j' => if k' = k ∧ j' = j then some r else h.2.2 k' j')
theorem wc_uR {G : GW} {h : HD} {σ : St} {k j r i : Nat} (hi : i ≠ k) : wc G (uR h k j r) σ i = wc G h σ i := by
  simp only [wc, uR, hi, false_and, if_false]
  congr 1
  split <;> simp [fv, hi]
theorem wls_fr {G : GW} {h : HD} {σ : St} {k c j r : Nat} (hk : (h.2.1 k).1 = c + 3) (hg : fg c j = 2) : (wls G h σ).set k (gB G + k, .inr (c, ((List.range (cq c).2.2).map (fv G h σ k c)).set j (rf G r))) = wls G (uR h k j r) σ := by
  refine wls_set rfl ?_ (fun j hj => wc_uR hj)
  simp only [wc, uR, hk]
  congr 3
  apply List.ext_getElem?
  intro i
  rw [List.getElem?_set]
  by_cases hi : j = i
  · subst hi
    by_cases hl : j < (cq c).2.2
    · simp [hl, fv, hg, rf, va_rf]
    · simp [hl]
  · rw [if_neg hi]
    have hi' : ¬ i = j := fun e => hi e.symm
    simp only [List.getElem?_map]
    by_cases hl : i < (cq c).2.2
    · simp [List.getElem?_range hl, fv, hi']
    · simp [hl]
section
variable {G : GW} {rm : Room} {M : MR} {kw mw : Nat × Nat} {pc q t : Nat} {L L' : List (Option Value)} {S : List Value} {h : HD} {σ : St} {Q : Option Value → HD → St → Prop}
theorem A.get {k c j idx : Nat} {v : Value} (hd : Ix M pc q (.getfield idx) 3) (hf : Fl M.1.cls idx c j) (hk : Ko h k c) (hv : fv G h σ k c j = v) (kk : A G rm M kw mw q L (v :: S) h σ Q) : A G rm M kw mw pc L (rf G k :: S) h σ Q := by
  intro p e s m args below meth cc ls H locs C hl hP hz hS
  obtain ⟨hd, rfl⟩ := hd
  obtain ⟨h1, h2, -, -⟩ := gw_all hf.1
  exact va_get (D := gD G) (ci := c) (v := v) (C := (cq c).1) (T := (cq c).2.1) (N := (cq c).2.2) C.1 C.2.1 C.2.2.2.2.2.2.2.1 h2 C.2.2.2.2.2.2.1 C.2.2.2.2.2.2.2.2.1.1 hP k (wls_obj hk) h1 j hf.2.1 (C.2.2.2.2.2.2.2.1 _ hf.2.2) (fun _ h9 => h9) (by simp [hf.2.1, hv]) hd (kk p e s m args below meth cc ls H locs C hl hP hz hS)
theorem A.getI {k c j idx : Nat} (hd : Ix M pc q (.getfield idx) 3) (hf : Fl M.1.cls idx c j) (hk : Ko h k c) (kk : A G rm M kw mw q L (.int (σ.1 k j) :: S) h σ Q) (hg : fg c j = 0 := by rfl) : A G rm M kw mw pc L (rf G k :: S) h σ Q := A.get hd hf hk (by simp [fv, hg]) kk
theorem A.getJ {k c j idx : Nat} (hd : Ix M pc q (.getfield idx) 3) (hf : Fl M.1.cls idx c j) (hk : Ko h k c) (kk : A G rm M kw mw q L (.long (σ.2 k j) :: S) h σ Q) (hg : fg c j = 1 := by rfl) : A G rm M kw mw pc L (rf G k :: S) h σ Q := A.get hd hf hk (by simp [fv, hg]) kk
theorem A.getR {k c j idx r : Nat} (hd : Ix M pc q (.getfield idx) 3) (hf : Fl M.1.cls idx c j) (hk : Ko h k c) (hr : h.2.2 k j = some r) (kk : A G rm M kw mw q L (rf G r :: S) h σ Q) (hg : fg c j = 2 := by rfl) : A G rm M kw mw pc L (rf G k :: S) h σ Q := A.get hd hf hk (by simp [fv, hg, hr, va_rf, rf]) kk
theorem A.putG {k c j idx : Nat} {ty : FieldType} {v : Value} {h' : HD} {σ' : St} (hd : Ix M pc q (.putfield idx) 3) (hf : Fp M.1.cls idx c j ty false) (hk : Ko h k c) (hn : narrow ty v = v) (hfit : fits ty v = true) (hw : (wls G h σ).set k (gB G + k, .inr (c, ((List.range (cq c).2.2).map (fv G h σ k c)).set j v)) = wls G h' σ') (hh : h'.1 = h.1) (kk : A G rm M kw mw q L S h' σ' Q) : A G rm M kw mw pc L (v :: rf G k :: S) h σ Q := by
  intro p e s m args below meth cc ls H locs C hl hP hz hS
  obtain ⟨hd, rfl⟩ := hd
  obtain ⟨h1, h2, ⟨ty0, h3⟩, h4⟩ := gw_all hf.1.1
  refine va_put (D := gD G) (ci := c) (v := v) (ty := ty) (C := (cq c).1) (T := (cq c).2.1) (N := (cq c).2.2) C.1 C.2.1 C.2.2.2.2.2.2.2.1 h2 ty0 h3 h4 C.2.2.2.2.2.2.1 C.2.2.2.2.2.2.2.2.1.1 hP wls_D hS k (wls_obj hk) h1 j hf.1.2.1 (C.2.2.2.2.2.2.2.1 _ hf.1.2.2) (fun _ h9 => h9) hf.2.2 hf.2.1 hn hfit (by simp; exact hf.1.2.1) hd (fun H1 locs1 hP1 _ hS1 => ?_)
  rw [hw] at hP1
  exact kk p e s m args below meth cc ls H1 locs1 C hl hP1 (by rw [hh]; exact hz) hS1
theorem A.putF {k c j idx : Nat} {ty : FieldType} {v : Value} {h' : HD} {σ' : St} (hd : Ix M pc q (.putfield idx) 3) (hf : Fp M.1.cls idx c j ty true) (hk : Ko h k c) (hn : narrow ty v = v) (hfit : fits ty v = true) (hin : M.1.name = "<init>") (hown : ((cq c).2.1 j).1 = M.1.cls) (hw : (wls G h σ).set k (gB G + k, .inr (c, ((List.range (cq c).2.2).map (fv G h σ k c)).set j v)) = wls G h' σ') (hh : h'.1 = h.1) (kk : A G rm M kw mw q L S h' σ' Q) : A G rm M kw mw pc L (v :: rf G k :: S) h σ Q := by
  intro p e s m args below meth cc ls H locs C hl hP hz hS
  obtain ⟨hd, rfl⟩ := hd
  obtain ⟨h1, h2, ⟨ty0, h3⟩, h4⟩ := gw_all hf.1.1
  refine va_putF (D := gD G) (ci := c) (v := v) (ty := ty) (C := (cq c).1) (T := (cq c).2.1) (N := (cq c).2.2) C.1 C.2.1 C.2.2.2.2.2.2.2.1 h2 ty0 h3 h4 C.2.2.2.2.2.2.1 C.2.2.2.2.2.2.2.2.1.1 hP wls_D hS k (wls_obj hk) h1 j hf.1.2.1 (C.2.2.2.2.2.2.2.1 _ hf.1.2.2) (fun _ h9 => h9) hf.2.2 (C.2.2.2.2.2.1.trans hin) hown hf.2.1 hn hfit (by simp; exact hf.1.2.1) hd (fun H1 locs1 hP1 _ hS1 => ?_)
  rw [hw] at hP1
  exact kk p e s m args below meth cc ls H1 locs1 C hl hP1 (by rw [hh]; exact hz) hS1
theorem A.putI {k c j idx : Nat} {v : Int32} (hd : Ix M pc q (.putfield idx) 3) (hf : Fp M.1.cls idx c j .int false) (hk : Ko h k c) (kk : A G rm M kw mw q L S h (ur σ k (upd (σ.1 k) j v)) Q) (hg : fg c j = 0 := by rfl) : A G rm M kw mw pc L (.int v :: rf G k :: S) h σ Q := A.putG hd hf hk rfl rfl (wls_fi hk.2 hg) rfl kk
theorem A.putZ {k c j idx : Nat} {v : Int32} (hd : Ix M pc q (.putfield idx) 3) (hf : Fp M.1.cls idx c j .boolean false) (hk : Ko h k c) (hv : v = 0 ∨ v = 1) (kk : A G rm M kw mw q L S h (ur σ k (upd (σ.1 k) j v)) Q) (hg : fg c j = 0 := by rfl) : A G rm M kw mw pc L (.int v :: rf G k :: S) h σ Q := A.putG hd hf hk (by rcases hv with rfl | rfl <;> decide) (by rcases hv with rfl | rfl <;> decide) (wls_fi hk.2 hg) rfl kk
theorem A.putJ {k c j idx : Nat} {v : Int64} (hd : Ix M pc q (.putfield idx) 3) (hf : Fp M.1.cls idx c j .long false) (hk : Ko h k c) (kk : A G rm M kw mw q L S h (uj σ k (vp_updL (σ.2 k) j v)) Q) (hg : fg c j = 1 := by rfl) : A G rm M kw mw pc L (.long v :: rf G k :: S) h σ Q := A.putG hd hf hk rfl rfl (wls_fj hk.2 hg) rfl kk
theorem A.putFI {k c j idx : Nat} {v : Int32} (hd : Ix M pc q (.putfield idx) 3) (hf : Fp M.1.cls idx c j .int true) (hk : Ko h k c) (hin : M.1.name = "<init>") (hown : ((cq c).2.1 j).1 = M.1.cls) (kk : A G rm M kw mw q L S h (ur σ k (upd (σ.1 k) j v)) Q) (hg : fg c j = 0 := by rfl) : A G rm M kw mw pc L (.int v :: rf G k :: S) h σ Q := A.putF hd hf hk rfl rfl hin hown (wls_fi hk.2 hg) rfl kk
theorem A.putFR {k c j idx r : Nat} {ty : FieldType} (hd : Ix M pc q (.putfield idx) 3) (hf : Fp M.1.cls idx c j ty true) (hk : Ko h k c) (hin : M.1.name = "<init>") (hown : ((cq c).2.1 j).1 = M.1.cls) (hn : narrow ty (rf G r) = rf G r) (hfit : fits ty (rf G r) = true) (kk : A G rm M kw mw q L S (uR h k j r) σ Q) (hg : fg c j = 2 := by rfl) : A G rm M kw mw pc L (rf G r :: rf G k :: S) h σ Q := A.putF hd hf hk hn hfit hin hown (wls_fr hk.2 hg) rfl kk
theorem A.iald {k n : Nat} {i : Int32} (hd : Ix M pc q .iaload 1) (hk : Ka h k n) (hi : vp_in i n) (kk : A G rm M kw mw q L (.int (σ.1 k i.toNatClampNeg) :: S) h σ Q) : A G rm M kw mw pc L (.int i :: rf G k :: S) h σ Q := by
  intro p e s m args below meth cc ls H locs C hl hP hz hS
  obtain ⟨hd, rfl⟩ := hd
  exact va_iald C.1 C.2.1 C.2.2.2.2.2.2.2.2.1.1 hP k 0 (wls_ia hk) rfl hi hd (kk p e s m args below meth cc ls H locs C hl hP hz hS)
theorem A.lald {k n : Nat} {i : Int32} (hd : Ix M pc q .laload 1) (hk : Kj h k n) (hi : vp_in i n) (kk : A G rm M kw mw q L (.long (σ.2 k i.toNatClampNeg) :: S) h σ Q) : A G rm M kw mw pc L (.int i :: rf G k :: S) h σ Q := by
  intro p e s m args below meth cc ls H locs C hl hP hz hS
  obtain ⟨hd, rfl⟩ := hd
  exact va_lald C.1 C.2.1 C.2.2.2.2.2.2.2.2.1.1 hP k 1 (wls_ja hk) rfl hi hd (kk p e s m args below meth cc ls H locs C hl hP hz hS)
theorem A.iast {k n : Nat} {i x : Int32} (hd : Ix M pc q .iastore 1) (hk : Ka h k n) (hi : vp_in i n) (kk : A G rm M kw mw q L S h (ur σ k (upd (σ.1 k) i.toNatClampNeg x)) Q) : A G rm M kw mw pc L (.int x :: .int i :: rf G k :: S) h σ Q := by
  intro p e s m args below meth cc ls H locs C hl hP hz hS
  obtain ⟨hd, rfl⟩ := hd
  refine va_iast C.1 C.2.1 C.2.2.2.2.2.2.2.2.1.1 hP wls_D hS k 0 (wls_ia hk) rfl hi hd (fun H1 locs1 hP1 _ hS1 => ?_)
  rw [wls_arr hk.2] at hP1
  exact kk p e s m args below meth cc ls H1 locs1 C hl hP1 hz hS1
theorem A.last {k n : Nat} {i : Int32} {x : Int64} (hd : Ix M pc q .lastore 1) (hk : Kj h k n) (hi : vp_in i n) (kk : A G rm M kw mw q L S h (uj σ k (vp_updL (σ.2 k) i.toNatClampNeg x)) Q) : A G rm M kw mw pc L (.long x :: .int i :: rf G k :: S) h σ Q := by
  intro p e s m args below meth cc ls H locs C hl hP hz hS
  obtain ⟨hd, rfl⟩ := hd
  refine va_last C.1 C.2.1 C.2.2.2.2.2.2.2.2.1.1 hP wls_D hS k 1 (wls_ja hk) rfl hi hd (fun H1 locs1 hP1 _ hS1 => ?_)
  rw [wls_arl hk.2] at hP1
  exact kk p e s m args below meth cc ls H1 locs1 C hl hP1 hz hS1
theorem A.alen {k n : Nat} {v : Int32} (hd : Ix M pc q .arraylength 1) (hk : Ka h k n) (hv : Int32.ofNat n = v) (kk : A G rm M kw mw q L (.int v :: S) h σ Q) : A G rm M kw mw pc L (rf G k :: S) h σ Q := by
  intro p e s m args below meth cc ls H locs C hl hP hz hS
  obtain ⟨hd, rfl⟩ := hd
  exact va_alen C.1 C.2.1 C.2.2.2.2.2.2.2.2.1.1 hP k 0 (wls_ia hk) rfl hv hd (kk p e s m args below meth cc ls H locs C hl hP hz hS)
theorem A.aald {k n r : Nat} {i : Int32} (hd : Ix M pc q .aaload 1) (hk : Kq h k n) (hi : vp_in i n) (hr : h.2.2 k i.toNatClampNeg = some r) (kk : A G rm M kw mw q L (rf G r :: S) h σ Q) : A G rm M kw mw pc L (.int i :: rf G k :: S) h σ Q := by
  intro p e s m args below meth cc ls H locs C hl hP hz hS
  obtain ⟨hd, rfl⟩ := hd
  refine va_aldq (C := "OwnWeather$Sheet") C.1 C.2.1 C.2.2.2.2.2.2.2.2.1.1 hP k 2 (wls_qa hk) rfl hi hd ?_
  have e1 : va_rf ((h.2.2 k i.toNatClampNeg).map (fun r => gB G + r)) = rf G r := by rw [hr]; rfl
  rw [e1]
  exact kk p e s m args below meth cc ls H locs C hl hP hz hS
/-! returns -/
theorem A.iret {r : Int32} (hd : Ix M pc q .ireturn 1) (hr : M.2.2.2 = some .int) (hkw : kw = mw) (hq : Q (some (.int r)) h σ) : A G rm M kw mw pc L [.int r] h σ Q := by
  intro p e s m args below meth cc ls H locs C hl hP hz hS
  obtain ⟨hd, rfl⟩ := hd
  subst hkw
  exact W.iret C.1 C.2.1 (C.2.2.2.1.trans hr) (fun t ht hW => ⟨⟨_, h, σ, rfl, hq, by rw [ht]; exact hP, VS.warm hW C.2.2.2.2.2.2.2.2.1⟩, hS.F ht⟩) hS.2.2 hd C.2.2.2.2.1
theorem A.zret {r : Int32} (hd : Ix M pc q .ireturn 1) (hr : M.2.2.2 = some .boolean) (hkw : kw = mw) (h01 : r = 0 ∨ r = 1) (hq : Q (some (.int r)) h σ) : A G rm M kw mw pc L [.int r] h σ Q := by
  intro p e s m args below meth cc ls H locs C hl hP hz hS
  obtain ⟨hd, rfl⟩ := hd
  subst hkw
  exact W.zret C.1 C.2.1 (C.2.2.2.1.trans hr) (by rcases h01 with rfl | rfl <;> decide) (fun t ht hW => ⟨⟨_, h, σ, rfl, hq, by rw [ht]; exact hP, VS.warm hW C.2.2.2.2.2.2.2.2.1⟩, hS.F ht⟩) hS.2.2 hd C.2.2.2.2.1
theorem A.lret {r : Int64} (hd : Ix M pc q .lreturn 1) (hr : M.2.2.2 = some .long) (hkw : kw = mw) (hq : Q (some (.long r)) h σ) : A G rm M kw mw pc L [.long r] h σ Q := by
  intro p e s m args below meth cc ls H locs C hl hP hz hS
  obtain ⟨hd, rfl⟩ := hd
  subst hkw
  exact W.lret C.1 C.2.1 (C.2.2.2.1.trans hr) (fun t ht hW => ⟨⟨_, h, σ, rfl, hq, by rw [ht]; exact hP, VS.warm hW C.2.2.2.2.2.2.2.2.1⟩, hS.F ht⟩) hS.2.2 hd C.2.2.2.2.1
theorem A.vret (hd : Ix M pc q .return_ 1) (hr : M.2.2.2 = none) (hkw : kw = mw) (hq : Q none h σ) : A G rm M kw mw pc L [] h σ Q := by
  intro p e s m args below meth cc ls H locs C hl hP hz hS
  obtain ⟨hd, rfl⟩ := hd
  subst hkw
  exact W.vret C.1 C.2.1 (C.2.2.2.1.trans hr) (fun t ht hW => ⟨⟨_, h, σ, rfl, hq, by rw [ht]; exact hP, VS.warm hW C.2.2.2.2.2.2.2.2.1⟩, hS.F ht⟩) hS.2.2 hd C.2.2.2.2.1
theorem A.aret {v : Value} {nm : String} (hd : Ix M pc q .areturn 1) (hr : M.2.2.2 = some (.object nm)) (hkw : kw = mw) (hv : v = .null ∨ ∃ a, v = rf G a) (hq : Q (some v) h σ) : A G rm M kw mw pc L [v] h σ Q := by
  intro p e s m args below meth cc ls H locs C hl hP hz hS
  obtain ⟨hd, rfl⟩ := hd
  subst hkw
  exact W.aret C.1 C.2.1 (C.2.2.2.1.trans hr) (Or.inl ⟨_, rfl⟩) (hv.imp id (fun ⟨a, ha⟩ => ⟨_, ha⟩)) (fun t ht hW => ⟨⟨_, h, σ, rfl, hq, by rw [ht]; exact hP, VS.warm hW C.2.2.2.2.2.2.2.2.1⟩, hS.F ht⟩) hS.2.2 hd C.2.2.2.2.1
end
