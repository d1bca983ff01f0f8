/-! ===== the answers, in plain words ===== -/
abbrev ck (a : Int32) (n : Nat) : Prop := 0 ≤ a.toInt ∧ a.toInt < (n : Int)
def crx (x : XS) (h q : Nat) : Nat := bits (isat (xa x h) q) (xp x)
def LL : Int64 := -9223372036854775808
def Vsky (x : XS) (h q w : Nat) : Int64 := if crx x h q = 0 then LL - (-3 : Int32).toInt64 else lN ((if w = 0 then sm (inb (crx x h q)) (xr x h) (xp x) else pop (crx x h q)) / Nat.gcd (sm (inb (crx x h q)) (xr x h) (xp x)) (pop (crx x h q)))
def metS (x : XS) (a : Nat → Int32) (b : Nat → Nat) (q : Nat) : Bool := metd (cnt (isat a q) (xp x)) (sm (isat a q) b (xp x)) (xlo x q) (xhi x q)
def metx (x : XS) (h q : Nat) : Bool := metS x (xa x h) (xr x h) q
def Vmet (x : XS) (h : Nat) : Int32 := nI (bits (metx x h) (xq x))
def Vspoilt (x : XS) (q : Nat) : Int32 := nI (bits (fun h => !decide (crx x h q = 0) && !metx x h q) 24)
def lsS (x : XS) (a : Nat → Int32) (b : Nat → Nat) : Nat := ffst (fun y => decide (2 ≤ cnt (isdk a b y) (xp x))) (xq x)
def lhx (x : XS) : Nat := ffst (fun h => decide (lsS x (xa x h) (xr x h) < xq x)) 24
def Vlightning (x : XS) (w : Nat) : Int32 := if lhx x < 24 then (if w = 0 then nI (lhx x) else nI (lsS x (xa x (lhx x)) (xr x (lhx x)))) else -1
def alk (x : XS) (h g : Nat) : Bool := alls (fun p => decide (xr x h p = xr x g p)) (xp x)
def Vsettles (x : XS) : Int32 := nI (23 - ffst (fun i => !alk x (22 - i) 23) 23)
/-- of all sets below n with P the smallest, of like ones the first -/
def bst (P : Nat → Bool) : Nat → Option Nat
  | 0 => none
  | n + 1 => if P n && fwr n (bst P n) then some n else bst P n
theorem bst_lt {P : Nat → Bool} : ∀ {n m : Nat}, bst P n = some m → m < n := by
  intro n
  induction n with
  | zero => intro m h; cases h
  | succ n ih =>
    intro m h
    unfold bst at h
    split at h
    · cases h; omega
    · have := ih h; omega
/-- told to go: those of m to q in hour 0, told last -/
def sT (x : XS) (m q h p : Nat) : Int32 := if h = 0 ∧ p < xp x ∧ inb m p = true then nI q else xT x h p
def aT (x : XS) (T : Nat → Nat → Int32) (h p : Nat) : Int32 := plf T (xq x) h p
def bT (x : XS) (T : Nat → Nat → Int32) (b0 : Nat → Nat) : Nat → Nat → Nat := brf (xk x) (aT x T) b0 (xp x)
def sndx (x : XS) (m q h : Nat) : Bool := metS x (aT x (sT x m q) h) (bT x (sT x m q) (xb x) h) q
def Vsend (x : XS) (q h w : Nat) : Int32 := setA (bst (fun m => decide (m &&& crx x 0 q = 0) && sndx x m q h) (2 ^ xp x)) w
def lft (a m : Nat) : Nat := a ^^^ (a &&& m)
def Vkeep (x : XS) (q h v w : Nat) : Int32 := setA (bst (fun m => decide (m &&& crx x h q = m) && decide (v * pop (lft (crx x h q) m) ≤ sm (inb (lft (crx x h q) m)) (xr x h) (xp x))) (crx x h q)) w
def sea (m : Nat) (b : Nat → Nat) (w : Nat) (f : Int32) (np : Nat) : Nat := ffst (fun p => inb m p && decide (bef m b p f np = w)) np
def seaI (m : Nat) (b : Nat → Nat) (w : Nat) (f : Int32) (np : Nat) : Int32 := if sea m b w f np < np then nI (sea m b w f np) else -1
def rowf (x : XS) (h q : Nat) : Int32 := if (seaI (crx x h q) (xr x h) 0 (nI 1) (xp x)).toInt < (seaI (crx x h q) (xr x h) 0 (nI 0) (xp x)).toInt then nI 1 else nI 0
def Vrow (x : XS) (h q i : Nat) : Int32 := seaI (crx x h q) (xr x h) i (rowf x h q) (xp x)
def VrowN (x : XS) (h q : Nat) : Int32 := if sea (crx x h q) (xr x h) 0 (nI 0) (xp x) < xp x ∧ sea (crx x h q) (xr x h) 0 (nI 1) (xp x) < xp x then nI (xr x h (sea (crx x h q) (xr x h) 0 (nI 1) (xp x))) - nI (xr x h (sea (crx x h q) (xr x h) 0 (nI 0) (xp x))) else nI 0
def b0v (x : XS) (p v : Nat) (i : Nat) : Nat := if i = p then v else xb x i
def mayx (x : XS) (p v : Nat) : Bool := alls (fun k => decide ((xs x).2.2.1 k < xp x) && decide (bT x (xT x) (b0v x p v) ((xs x).2.1 k) ((xs x).2.2.1 k) = (xs x).2.2.2 k)) (xs x).1
def Vmay (x : XS) (p : Nat) : Int32 := nI (bits (mayx x p) 10)
def hidx (x : XS) (p : Nat) : Bool := alls (fun k => decide (xa x ((xf x).2.1 k) p = nI ((xf x).2.2.1 k)) == decide ((xf x).2.2.2 k = 1)) (xf x).1
def Vhid (x : XS) : Int32 := nI (bits (hidx x) (xp x))
def chg (x : XS) : Nat := bits (fun p => decide (¬ xk x p = 2)) (xp x)
def nb (x : XS) (m i : Nat) : Nat := if inb m i then xb x i - 3 else xb x i
def wgt (x : XS) (c m : Nat) : Nat := if m &&& chg x = m then c ^ pop m * (16 - c) ^ (pop (chg x) - pop m) else 0
def nmet (x : XS) (m h q : Nat) : Bool := metS x (xa x h) (bT x (xT x) (nb x m) h) q
def nsum (x : XS) (c h q : Nat) : Nat → Nat
  | 0 => 0
  | n + 1 => nsum x c h q n + (if nmet x n h q then wgt x c n else 0)
def Vnews (x : XS) (c q h w : Nat) : Int64 := lN ((if w = 0 then nsum x c h q (2 ^ xp x) else 16 ^ pop (chg x)) / Nat.gcd (nsum x c h q (2 ^ xp x)) (16 ^ pop (chg x)))
def surex (x : XS) (c q h : Nat) : Bool := alls (fun m => decide (wgt x c m = 0) || nmet x m h q) (2 ^ xp x)
def Vroof (x : XS) (c q h : Nat) : Int32 := if ffst (fun i => surex x c q (h + i)) (24 - h) < 24 - h then nI (h + ffst (fun i => surex x c q (h + i)) (24 - h)) else -1
/-- the lots of a day -/
def lts (s : Int32) : Nat → Int32
  | 0 => s
  | h + 1 => nl (nl (lts s h))
def dT (x : XS) (s : Int32) (h p : Nat) : Int32 := if 0 < xp x ∧ 0 < xq x ∧ p = u16 (nl (lts s h)) % xp x then nI (u16 (nl (nl (lts s h))) % xq x) else xT x h p
def Vday (x : XS) (s : Int32) (p : Nat) : Int32 := nI (bT x (dT x s) (xb x) 23 p)
def VdayN (x : XS) (s : Int32) : Int32 := nI (cnt (fun h => decide (lsS x (aT x (dT x s) h) (bT x (dT x s) (xb x) h) < xq x)) 24)
theorem crx_lt {x : XS} {h q : Nat} (n8 : xp x ≤ 8) : crx x h q < 256 := by
  have h1 := bits_lt (isat (xa x h) q) (xp x)
  have h2 : 2 ^ xp x ≤ 2 ^ 8 := Nat.pow_le_pow_right (by omega) n8
  unfold crx
  omega
theorem bits_tb (f : Nat → Bool) : ∀ n i, (bits f n).testBit i = (decide (i < n) && f i) := by
  intro n
  induction n with
  | zero => intro i; simp [bits]
  | succ n ih =>
    intro i
    unfold bits
    by_cases hf : f n = true
    · rw [if_pos hf, Nat.testBit_or, ih, Nat.testBit_two_pow]
      by_cases e : n = i
      · subst e; simp [hf]
      · rw [show decide (n = i) = false by simpa using e, Bool.or_false]
        congr 1
        exact decide_eq_decide.mpr (by omega)
    · rw [if_neg hf, ih]
      by_cases e : i = n
      · subst e; simp [hf]
      · congr 1
        exact decide_eq_decide.mpr (by omega)
theorem inb_bits (f : Nat → Bool) (n i : Nat) : inb (bits f n) i = (decide (i < n) && f i) := by rw [inb_tb, bits_tb]
theorem bits_zero {f : Nat → Bool} {n : Nat} : bits f n = 0 ↔ ∀ i, i < n → f i = false := by
  constructor
  · intro h i hi
    have := bits_tb f n i
    rw [h, Nat.zero_testBit] at this
    simpa [hi] using this.symm
  · intro h
    apply Nat.eq_of_testBit_eq
    intro i
    rw [bits_tb, Nat.zero_testBit]
    by_cases e : i < n
    · simp [e, h i e]
    · simp [e]
theorem cnt_zero {f : Nat → Bool} : ∀ {n : Nat}, cnt f n = 0 ↔ ∀ i, i < n → f i = false := by
  intro n
  induction n with
  | zero => simp [cnt]
  | succ n ih =>
    unfold cnt
    constructor
    · intro h i hi
      by_cases hf : f n = true
      · rw [if_pos hf] at h; omega
      · rw [if_neg hf] at h
        rcases Nat.lt_or_ge i n with q | q
        · exact ih.mp h i q
        · rw [show i = n by omega]; simpa using hf
    · intro h
      rw [ih.mpr (fun i hi => h i (by omega)), h n (by omega)]
      rfl
theorem crx_pop {x : XS} {h q : Nat} (n8 : xp x ≤ 8) (hz : crx x h q ≠ 0) : 0 < pop (crx x h q) := by
  rcases Nat.eq_zero_or_pos (pop (crx x h q)) with e | e
  · exfalso
    apply hz
    unfold crx
    rw [bits_zero]
    intro i hi
    have h1 := cnt_zero.mp e i (by omega)
    unfold crx at h1
    rw [inb_bits] at h1
    simpa [hi] using h1
  · exact e
def Rwhere (x : XS) (h p : Int32) : Int32 := if ck h 24 ∧ ck p (xp x) then xa x h.toNatClampNeg p.toNatClampNeg else -2
set_option maxRecDepth 100000 in
set_option maxHeartbeats 4000000 in
theorem sX4_where {G : GW} {σ : St} {K : Int32 → St → Prop} {x : XS} {h p : Nat} (hC : CI x σ) (bh : h < 24) (bp : p < (xp x)) (hQ : ∀ τ : St, CI x τ → Fi 0 41 σ τ → K (xa x h p) τ) : Ci G (r0 4 86) mX4_where [rf G 0, .int (nI h), .int (nI p)] σ K := by
  refine Ci.of [some (rf G 0), some (.int (nI h)), some (.int (nI p))] ?_
  have n8 := hC.np8
  have q6 := hC.nq6
  refine A.il1 eX4_where_0 ?_
  refine A.cSi1 eX4_where_1 oX4_isHour kX4_134 (sX4_isHour  ?_)
  refine A.if_eqB eX4_where_4 (fun c1 => ?_) (fun c1 => ?_)
  · exact absurd ⟨by rw [nI_ti (by omega)]; omega, by rw [nI_ti (by omega)]; omega⟩ c1
  · refine A.al0 eX4_where_7 ?_
    refine A.il2 eX4_where_8 ?_
    refine A.cVi1 eX4_where_9 oX4_isPerson kX4_87 ko0 (sX4_isPerson hC.np hC.np8 ?_)
    refine A.if_neB eX4_where_12 (fun c2 => ?_) (fun c2 => ?_)
    · refine A.al0 eX4_where_18 ?_
      refine A.cVa0 eX4_where_19 oX4_valley kX4_137 ko0 (sX4_valley hC (fun τ g1 g2 g3 => ?_))
      refine A.il1 eX4_where_22 ?_
      refine A.il2 eX4_where_23 ?_
      refine A.cVi2 eX4_where_24 oX3_placeOf kX4_141 ko30 (sX3_placeOf (v := 30) (Or.inl rfl) bh (by omega) ?_)
      refine B.iret eX4_where_27 ?_
      exact vl_of (hQ τ g1 g3) (g2 h bh p bp).1
    · exact absurd ⟨by rw [nI_ti (by omega)]; omega, by rw [nI_ti (by omega)]; omega⟩ c2
set_option maxRecDepth 100000 in
set_option maxHeartbeats 4000000 in
theorem bX4_where {G : GW} {σ : St} {K : Int32 → St → Prop} {x : XS} {h p : Int32} (hC : CI x σ) (hb : ¬ (ck h 24 ∧ ck p (xp x))) (hQ : K (-2) σ) : Ci G (r0 4 86) mX4_where [rf G 0, .int h, .int p] σ K := by
  refine Ci.of [some (rf G 0), some (.int h), some (.int p)] ?_
  have n8 := hC.np8
  have q6 := hC.nq6
  refine A.il1 eX4_where_0 ?_
  refine A.cSi1 eX4_where_1 oX4_isHour kX4_134 (sX4_isHour  ?_)
  refine A.if_eqB eX4_where_4 (fun c1 => ?_) (fun c1 => ?_)
  · refine A.bipush (v := -2) eX4_where_15 (by decide) ?_
    refine B.iret eX4_where_17 ?_
    exact hQ
  · refine A.al0 eX4_where_7 ?_
    refine A.il2 eX4_where_8 ?_
    refine A.cVi1 eX4_where_9 oX4_isPerson kX4_87 ko0 (sX4_isPerson hC.np hC.np8 ?_)
    refine A.if_neB eX4_where_12 (fun c2 => ?_) (fun c2 => ?_)
    · exact absurd ⟨c1, c2⟩ hb
    · refine A.bipush (v := -2) eX4_where_15 (by decide) ?_
      refine B.iret eX4_where_17 ?_
      exact hQ
theorem aX4_where {G : GW} {σ : St} {K : Int32 → St → Prop} {x : XS} {h p : Int32} (hC : CI x σ) (hQ : ∀ τ : St, CI x τ → Fi 0 41 σ τ → K (Rwhere x h p) τ) : Ci G (r0 4 86) mX4_where [rf G 0, .int h, .int p] σ K := by
  have n8 := hC.np8
  have q6 := hC.nq6
  by_cases hb : ck h 24 ∧ ck p (xp x)
  · have hR : Rwhere x h p = _ := if_pos hb
    rw [hR] at hQ
    obtain ⟨h, bh, rfl⟩ := i_nat hb.1.1 hb.1.2
    obtain ⟨p, bp, rfl⟩ := i_nat hb.2.1 hb.2.2
    simp only [nI_clamp (n := h) (by omega), nI_clamp (n := p) (by omega)] at hQ
    exact sX4_where hC bh bp hQ
  · have hR : Rwhere x h p = _ := if_neg hb
    rw [hR] at hQ
    exact bX4_where hC hb (hQ σ hC (Fi.rf _ _ _))
def Rbright (x : XS) (h p : Int32) : Int32 := if ck h 24 ∧ ck p (xp x) then nI (xr x h.toNatClampNeg p.toNatClampNeg) else -2
set_option maxRecDepth 100000 in
set_option maxHeartbeats 4000000 in
theorem sX4_bright {G : GW} {σ : St} {K : Int32 → St → Prop} {x : XS} {h p : Nat} (hC : CI x σ) (bh : h < 24) (bp : p < (xp x)) (hQ : ∀ τ : St, CI x τ → Fi 0 41 σ τ → K (nI (xr x h p)) τ) : Ci G (r0 4 86) mX4_bright [rf G 0, .int (nI h), .int (nI p)] σ K := by
  refine Ci.of [some (rf G 0), some (.int (nI h)), some (.int (nI p))] ?_
  have n8 := hC.np8
  have q6 := hC.nq6
  refine A.il1 eX4_bright_0 ?_
  refine A.cSi1 eX4_bright_1 oX4_isHour kX4_134 (sX4_isHour  ?_)
  refine A.if_eqB eX4_bright_4 (fun c1 => ?_) (fun c1 => ?_)
  · exact absurd ⟨by rw [nI_ti (by omega)]; omega, by rw [nI_ti (by omega)]; omega⟩ c1
  · refine A.al0 eX4_bright_7 ?_
    refine A.il2 eX4_bright_8 ?_
    refine A.cVi1 eX4_bright_9 oX4_isPerson kX4_87 ko0 (sX4_isPerson hC.np hC.np8 ?_)
    refine A.if_neB eX4_bright_12 (fun c2 => ?_) (fun c2 => ?_)
    · refine A.al0 eX4_bright_18 ?_
      refine A.cVa0 eX4_bright_19 oX4_valley kX4_137 ko0 (sX4_valley hC (fun τ g1 g2 g3 => ?_))
      refine A.il1 eX4_bright_22 ?_
      refine A.il2 eX4_bright_23 ?_
      refine A.cVi2 eX4_bright_24 oX3_brightnessOf kX4_145 ko30 (sX3_brightnessOf (v := 30) (Or.inl rfl) bh (by omega) ?_)
      refine B.iret eX4_bright_27 ?_
      exact vl_of (hQ τ g1 g3) (g2 h bh p bp).2.1
    · exact absurd ⟨by rw [nI_ti (by omega)]; omega, by rw [nI_ti (by omega)]; omega⟩ c2
set_option maxRecDepth 100000 in
set_option maxHeartbeats 4000000 in
theorem bX4_bright {G : GW} {σ : St} {K : Int32 → St → Prop} {x : XS} {h p : Int32} (hC : CI x σ) (hb : ¬ (ck h 24 ∧ ck p (xp x))) (hQ : K (-2) σ) : Ci G (r0 4 86) mX4_bright [rf G 0, .int h, .int p] σ K := by
  refine Ci.of [some (rf G 0), some (.int h), some (.int p)] ?_
  have n8 := hC.np8
  have q6 := hC.nq6
  refine A.il1 eX4_bright_0 ?_
  refine A.cSi1 eX4_bright_1 oX4_isHour kX4_134 (sX4_isHour  ?_)
  refine A.if_eqB eX4_bright_4 (fun c1 => ?_) (fun c1 => ?_)
  · refine A.bipush (v := -2) eX4_bright_15 (by decide) ?_
    refine B.iret eX4_bright_17 ?_
    exact hQ
  · refine A.al0 eX4_bright_7 ?_
    refine A.il2 eX4_bright_8 ?_
    refine A.cVi1 eX4_bright_9 oX4_isPerson kX4_87 ko0 (sX4_isPerson hC.np hC.np8 ?_)
    refine A.if_neB eX4_bright_12 (fun c2 => ?_) (fun c2 => ?_)
    · exact absurd ⟨c1, c2⟩ hb
    · refine A.bipush (v := -2) eX4_bright_15 (by decide) ?_
      refine B.iret eX4_bright_17 ?_
      exact hQ
theorem aX4_bright {G : GW} {σ : St} {K : Int32 → St → Prop} {x : XS} {h p : Int32} (hC : CI x σ) (hQ : ∀ τ : St, CI x τ → Fi 0 41 σ τ → K (Rbright x h p) τ) : Ci G (r0 4 86) mX4_bright [rf G 0, .int h, .int p] σ K := by
  have n8 := hC.np8
  have q6 := hC.nq6
  by_cases hb : ck h 24 ∧ ck p (xp x)
  · have hR : Rbright x h p = _ := if_pos hb
    rw [hR] at hQ
    obtain ⟨h, bh, rfl⟩ := i_nat hb.1.1 hb.1.2
    obtain ⟨p, bp, rfl⟩ := i_nat hb.2.1 hb.2.2
    simp only [nI_clamp (n := h) (by omega), nI_clamp (n := p) (by omega)] at hQ
    exact sX4_bright hC bh bp hQ
  · have hR : Rbright x h p = _ := if_neg hb
    rw [hR] at hQ
    exact bX4_bright hC hb (hQ σ hC (Fi.rf _ _ _))
def Rcrowd (x : XS) (h q : Int32) : Int32 := if ck h 24 ∧ ck q (xq x) then nI (crx x h.toNatClampNeg q.toNatClampNeg) else -2
set_option maxRecDepth 100000 in
set_option maxHeartbeats 4000000 in
theorem sX4_crowd {G : GW} {σ : St} {K : Int32 → St → Prop} {x : XS} {h q : Nat} (hC : CI x σ) (bh : h < 24) (bq : q < (xq x)) (hQ : ∀ τ : St, CI x τ → Fi 0 41 σ τ → K (nI (crx x h q)) τ) : Ci G (r0 4 86) mX4_crowd [rf G 0, .int (nI h), .int (nI q)] σ K := by
  refine Ci.of [some (rf G 0), some (.int (nI h)), some (.int (nI q))] ?_
  have n8 := hC.np8
  have q6 := hC.nq6
  refine A.il1 eX4_crowd_0 ?_
  refine A.cSi1 eX4_crowd_1 oX4_isHour kX4_134 (sX4_isHour  ?_)
  refine A.if_eqB eX4_crowd_4 (fun c1 => ?_) (fun c1 => ?_)
  · exact absurd ⟨by rw [nI_ti (by omega)]; omega, by rw [nI_ti (by omega)]; omega⟩ c1
  · refine A.al0 eX4_crowd_7 ?_
    refine A.il2 eX4_crowd_8 ?_
    refine A.cVi1 eX4_crowd_9 oX4_isPlace kX4_98 ko0 (sX4_isPlace hC.nq hC.nq6 ?_)
    refine A.if_neB eX4_crowd_12 (fun c2 => ?_) (fun c2 => ?_)
    · refine A.al0 eX4_crowd_18 ?_
      refine A.cVa0 eX4_crowd_19 oX4_valley kX4_137 ko0 (sX4_valley hC (fun τ g1 g2 g3 => ?_))
      refine A.il1 eX4_crowd_22 ?_
      refine A.il2 eX4_crowd_23 ?_
      refine A.cVi2 eX4_crowd_24 oX3_crowdAt kX4_148 ko30 (sX3_crowdAt (v := 30) (Or.inl rfl) bh g1.np n8 (g2 h bh) ?_)
      refine B.iret eX4_crowd_27 ?_
      exact hQ τ g1 g3
    · exact absurd ⟨by rw [nI_ti (by omega)]; omega, by rw [nI_ti (by omega)]; omega⟩ c2
set_option maxRecDepth 100000 in
set_option maxHeartbeats 4000000 in
theorem bX4_crowd {G : GW} {σ : St} {K : Int32 → St → Prop} {x : XS} {h q : Int32} (hC : CI x σ) (hb : ¬ (ck h 24 ∧ ck q (xq x))) (hQ : K (-2) σ) : Ci G (r0 4 86) mX4_crowd [rf G 0, .int h, .int q] σ K := by
  refine Ci.of [some (rf G 0), some (.int h), some (.int q)] ?_
  have n8 := hC.np8
  have q6 := hC.nq6
  refine A.il1 eX4_crowd_0 ?_
  refine A.cSi1 eX4_crowd_1 oX4_isHour kX4_134 (sX4_isHour  ?_)
  refine A.if_eqB eX4_crowd_4 (fun c1 => ?_) (fun c1 => ?_)
  · refine A.bipush (v := -2) eX4_crowd_15 (by decide) ?_
    refine B.iret eX4_crowd_17 ?_
    exact hQ
  · refine A.al0 eX4_crowd_7 ?_
    refine A.il2 eX4_crowd_8 ?_
    refine A.cVi1 eX4_crowd_9 oX4_isPlace kX4_98 ko0 (sX4_isPlace hC.nq hC.nq6 ?_)
    refine A.if_neB eX4_crowd_12 (fun c2 => ?_) (fun c2 => ?_)
    · exact absurd ⟨c1, c2⟩ hb
    · refine A.bipush (v := -2) eX4_crowd_15 (by decide) ?_
      refine B.iret eX4_crowd_17 ?_
      exact hQ
theorem aX4_crowd {G : GW} {σ : St} {K : Int32 → St → Prop} {x : XS} {h q : Int32} (hC : CI x σ) (hQ : ∀ τ : St, CI x τ → Fi 0 41 σ τ → K (Rcrowd x h q) τ) : Ci G (r0 4 86) mX4_crowd [rf G 0, .int h, .int q] σ K := by
  have n8 := hC.np8
  have q6 := hC.nq6
  by_cases hb : ck h 24 ∧ ck q (xq x)
  · have hR : Rcrowd x h q = _ := if_pos hb
    rw [hR] at hQ
    obtain ⟨h, bh, rfl⟩ := i_nat hb.1.1 hb.1.2
    obtain ⟨q, bq, rfl⟩ := i_nat hb.2.1 hb.2.2
    simp only [nI_clamp (n := h) (by omega), nI_clamp (n := q) (by omega)] at hQ
    exact sX4_crowd hC bh bq hQ
  · have hR : Rcrowd x h q = _ := if_neg hb
    rw [hR] at hQ
    exact bX4_crowd hC hb (hQ σ hC (Fi.rf _ _ _))
def Rsky (x : XS) (h q w : Int32) : Int64 := if ck h 24 ∧ ck q (xq x) ∧ ck w 2 then Vsky x h.toNatClampNeg q.toNatClampNeg w.toNatClampNeg else LL - (-2 : Int32).toInt64
set_option maxRecDepth 100000 in
set_option maxHeartbeats 4000000 in
theorem sX4_sky {G : GW} {σ : St} {K : Int64 → St → Prop} {x : XS} {h q w : Nat} (hC : CI x σ) (bh : h < 24) (bq : q < (xq x)) (bw : w < 2) (hQ : ∀ τ : St, CI x τ → Fi 0 41 σ τ → K (Vsky x h q w) τ) : Cl G (r0 4 86) mX4_sky [rf G 0, .int (nI h), .int (nI q), .int (nI w)] σ K := by
  refine Cl.of [some (rf G 0), some (.int (nI h)), some (.int (nI q)), some (.int (nI w)), none] ?_
  have n8 := hC.np8
  have q6 := hC.nq6
  refine A.il1 eX4_sky_0 ?_
  refine A.cSi1 eX4_sky_1 oX4_isHour kX4_134 (sX4_isHour  ?_)
  refine A.if_eqB eX4_sky_4 (fun c1 => ?_) (fun c1 => ?_)
  · exact absurd ⟨by rw [nI_ti (by omega)]; omega, by rw [nI_ti (by omega)]; omega⟩ c1
  · refine A.al0 eX4_sky_7 ?_
    refine A.il2 eX4_sky_8 ?_
    refine A.cVi1 eX4_sky_9 oX4_isPlace kX4_98 ko0 (sX4_isPlace hC.nq hC.nq6 ?_)
    refine A.if_eqB eX4_sky_12 (fun c2 => ?_) (fun c2 => ?_)
    · exact absurd ⟨by rw [nI_ti (by omega)]; omega, by rw [nI_ti (by omega)]; omega⟩ c2
    · refine A.il3 eX4_sky_15 ?_
      refine A.iconst (v := nI 2) eX4_sky_16 (by decide) ?_
      refine A.cSi2 eX4_sky_17 oX4_isBelow kX4_67 (sX4_isBelowIN (b := 2) (by omega) ?_)
      refine A.if_neB eX4_sky_20 (fun c3 => ?_) (fun c3 => ?_)
      · refine A.al0 eX4_sky_29 ?_
        refine A.cVa0 eX4_sky_30 oX4_valley kX4_137 ko0 (sX4_valley hC (fun τ g1 g2 g3 => ?_))
        refine A.il1 eX4_sky_33 ?_
        refine A.il2 eX4_sky_34 ?_
        refine A.cVi2 eX4_sky_35 oX3_crowdAt kX4_148 ko30 (sX3_crowdAt (v := 30) (Or.inl rfl) bh g1.np n8 (g2 h bh) ?_)
        refine A.top (show nI (bits (fun p => decide (xa x h p = nI q)) (xp x)) = nI (crx x h q) from rfl) ?_
        have hc8 : crx x h q < 256 := crx_lt n8
        refine A.is4 eX4_sky_38 ?_
        refine A.il4 eX4_sky_40 ?_
        refine A.if_neN eX4_sky_42 (fun cz => ?_) (fun cz => ?_)
        · refine A.al0 eX4_sky_51 ?_
          refine A.cVa0 eX4_sky_52 oX4_valley kX4_137 ko0 (sX4_valley g1 (fun τ2 k1 k2 k3 => ?_))
          refine A.il1 eX4_sky_55 ?_
          refine A.il4 eX4_sky_56 ?_
          refine A.cVi2 eX4_sky_58 oX3_sumOf kX4_155 ko30 (sX3_sumOf (v := 30) (Or.inl rfl) bh k1.np n8 (k2 h bh) hc8 ?_)
          have hpp : 0 < pop (crx x h q) := crx_pop n8 cz
          have hp8 := pop_le (crx x h q)
          have hs72 : (sm (inb (crx x h q)) (xr x h) (xp x)) ≤ xp x * 9 := sm_le (fun p hp => (k2 h bh p hp).2.2)
          refine A.i2l eX4_sky_61 rfl ?_
          rw [i64_nI (show (sm (inb (crx x h q)) (xr x h) (xp x)) < 2147483648 by omega)]
          refine A.il4 eX4_sky_62 ?_
          refine A.cSi1 eX4_sky_64 oJ6_bitCount_0f7a4 kX4_158 (sJ6_bitCount_0f7a4 hc8 ?_)
          refine A.i2l eX4_sky_67 rfl ?_
          rw [i64_nI (show pop (crx x h q) < 2147483648 by omega)]
          refine A.il3 eX4_sky_68 ?_
          refine A.cSl3 eX4_sky_69 oX4_partOfFraction kX4_163 (sX4_partOfFraction (a := (sm (inb (crx x h q)) (xr x h) (xp x))) (d := pop (crx x h q)) (by omega) (by omega) hpp bw ?_)
          refine B.lret eX4_sky_72 ?_
          refine vl_of (hQ τ2 k1 (g3.tr k3)) ?_
          unfold Vsky; rw [if_neg cz]
        · refine A.bipush (v := -3) eX4_sky_45 (by decide) ?_
          refine A.cSl1 eX4_sky_47 oX4_refusedLong kX4_151 (sX4_refusedLong ?_)
          refine B.lret eX4_sky_50 ?_
          refine vl_of (hQ τ g1 g3) ?_
          unfold Vsky; rw [if_pos cz]; rfl
      · exact absurd ⟨by rw [nI_ti (by omega)]; omega, by rw [nI_ti (by omega)]; omega⟩ c3
set_option maxRecDepth 100000 in
set_option maxHeartbeats 4000000 in
theorem bX4_sky {G : GW} {σ : St} {K : Int64 → St → Prop} {x : XS} {h q w : Int32} (hC : CI x σ) (hb : ¬ (ck h 24 ∧ ck q (xq x) ∧ ck w 2)) (hQ : K (LL - (-2 : Int32).toInt64) σ) : Cl G (r0 4 86) mX4_sky [rf G 0, .int h, .int q, .int w] σ K := by
  refine Cl.of [some (rf G 0), some (.int h), some (.int q), some (.int w), none] ?_
  have n8 := hC.np8
  have q6 := hC.nq6
  refine A.il1 eX4_sky_0 ?_
  refine A.cSi1 eX4_sky_1 oX4_isHour kX4_134 (sX4_isHour  ?_)
  refine A.if_eqB eX4_sky_4 (fun c1 => ?_) (fun c1 => ?_)
  · refine A.bipush (v := -2) eX4_sky_23 (by decide) ?_
    refine A.cSl1 eX4_sky_25 oX4_refusedLong kX4_151 (sX4_refusedLong ?_)
    refine B.lret eX4_sky_28 ?_
    exact hQ
  · refine A.al0 eX4_sky_7 ?_
    refine A.il2 eX4_sky_8 ?_
    refine A.cVi1 eX4_sky_9 oX4_isPlace kX4_98 ko0 (sX4_isPlace hC.nq hC.nq6 ?_)
    refine A.if_eqB eX4_sky_12 (fun c2 => ?_) (fun c2 => ?_)
    · refine A.bipush (v := -2) eX4_sky_23 (by decide) ?_
      refine A.cSl1 eX4_sky_25 oX4_refusedLong kX4_151 (sX4_refusedLong ?_)
      refine B.lret eX4_sky_28 ?_
      exact hQ
    · refine A.il3 eX4_sky_15 ?_
      refine A.iconst (v := nI 2) eX4_sky_16 (by decide) ?_
      refine A.cSi2 eX4_sky_17 oX4_isBelow kX4_67 (sX4_isBelowIN (b := 2) (by omega) ?_)
      refine A.if_neB eX4_sky_20 (fun c3 => ?_) (fun c3 => ?_)
      · exact absurd ⟨c1, c2, c3⟩ hb
      · refine A.bipush (v := -2) eX4_sky_23 (by decide) ?_
        refine A.cSl1 eX4_sky_25 oX4_refusedLong kX4_151 (sX4_refusedLong ?_)
        refine B.lret eX4_sky_28 ?_
        exact hQ
theorem aX4_sky {G : GW} {σ : St} {K : Int64 → St → Prop} {x : XS} {h q w : Int32} (hC : CI x σ) (hQ : ∀ τ : St, CI x τ → Fi 0 41 σ τ → K (Rsky x h q w) τ) : Cl G (r0 4 86) mX4_sky [rf G 0, .int h, .int q, .int w] σ K := by
  have n8 := hC.np8
  have q6 := hC.nq6
  by_cases hb : ck h 24 ∧ ck q (xq x) ∧ ck w 2
  · have hR : Rsky x h q w = _ := if_pos hb
    rw [hR] at hQ
    obtain ⟨h, bh, rfl⟩ := i_nat hb.1.1 hb.1.2
    obtain ⟨q, bq, rfl⟩ := i_nat hb.2.1.1 hb.2.1.2
    obtain ⟨w, bw, rfl⟩ := i_nat hb.2.2.1 hb.2.2.2
    simp only [nI_clamp (n := h) (by omega), nI_clamp (n := q) (by omega), nI_clamp (n := w) (by omega)] at hQ
    exact sX4_sky hC bh bq bw hQ
  · have hR : Rsky x h q w = _ := if_neg hb
    rw [hR] at hQ
    exact bX4_sky hC hb (hQ σ hC (Fi.rf _ _ _))
