/-! ===== plain words for crowds, sums, bits ===== -/
/-- the bits of those below n of which f holds -/
def bits (f : Nat → Bool) : Nat → Nat
  | 0 => 0
  | n + 1 => if f n then bits f n ||| 2 ^ n else bits f n
/-- how many, how much together -/
def cnt (f : Nat → Bool) : Nat → Nat
  | 0 => 0
  | n + 1 => cnt f n + (if f n then 1 else 0)
def sm (f : Nat → Bool) (b : Nat → Nat) : Nat → Nat
  | 0 => 0
  | n + 1 => sm f b n + (if f n then b n else 0)
def inb (m i : Nat) : Bool := decide (m / 2 ^ i &&& 1 = 1)
theorem inb_t {m i : Nat} (h : m / 2 ^ i &&& 1 = 1) : inb m i = true := decide_eq_true h
theorem inb_f {m i : Nat} (h : m / 2 ^ i &&& 1 ≠ 1) : inb m i = false := decide_eq_false h
def alls (f : Nat → Bool) : Nat → Bool
  | 0 => true
  | n + 1 => alls f n && f n
def ffst (P : Nat → Bool) : Nat → Nat
  | 0 => 0
  | n + 1 => if ffst P n < n then ffst P n else if P n then n else n + 1
theorem bits_lt (f : Nat → Bool) : ∀ n, bits f n < 2 ^ n := by
  intro n
  induction n with
  | zero => simp [bits]
  | succ n ih =>
    unfold bits
    have h2 : (2 : Nat) ^ n < 2 ^ (n + 1) := Nat.pow_lt_pow_right (by omega) (by omega)
    split
    · exact Nat.or_lt_two_pow (by omega) h2
    · omega
theorem cnt_le (f : Nat → Bool) : ∀ n, cnt f n ≤ n := by
  intro n
  induction n with
  | zero => exact Nat.le_refl _
  | succ n ih => unfold cnt; split <;> omega
theorem sm_le {f : Nat → Bool} {b : Nat → Nat} {c : Nat} : ∀ {n : Nat}, (∀ p, p < n → b p ≤ c) → sm f b n ≤ n * c := by
  intro n
  induction n with
  | zero => intro _; simp [sm]
  | succ n ih =>
    intro h
    have h1 := ih (fun p hp => h p (by omega))
    have h2 := h n (by omega)
    unfold sm
    rw [Nat.succ_mul]
    split <;> omega
theorem ffst_le (P : Nat → Bool) : ∀ n, ffst P n ≤ n := by
  intro n
  induction n with
  | zero => exact Nat.le_refl _
  | succ n ih => unfold ffst; split <;> (try split) <;> omega
theorem ffst_none {P : Nat → Bool} : ∀ {n : Nat}, (∀ i, i < n → P i = false) → ffst P n = n := by
  intro n
  induction n with
  | zero => intro _; rfl
  | succ n ih =>
    intro h
    have h1 := ih (fun i hi => h i (by omega))
    unfold ffst
    rw [h1, if_neg (by omega), if_neg (by simp [h n (by omega)])]
theorem ffst_stay {P : Nat → Bool} {m : Nat} (h : ffst P m < m) : ∀ n, m ≤ n → ffst P n = ffst P m := by
  intro n hn
  induction n with
  | zero => have : m = 0 := by omega
            subst this; rfl
  | succ n ih =>
    rcases Nat.lt_or_ge n m with q | q
    · have : m = n + 1 := by omega
      rw [this]
    · have h1 := ih q
      show (if ffst P n < n then ffst P n else if P n then n else n + 1) = _
      rw [h1, if_pos (by omega)]
theorem ffst_first {P : Nat → Bool} {i n : Nat} (h : ∀ k, k < i → P k = false) (hi : i < n) (hb : P i = true) : ffst P n = i := by
  have h1 : ffst P (i + 1) = i := by
    unfold ffst
    rw [ffst_none h, if_neg (by omega), if_pos hb]
  rw [ffst_stay (m := i + 1) (by omega) n (by omega), h1]
theorem alls_of {f : Nat → Bool} : ∀ {n : Nat}, alls f n = true ↔ ∀ i, i < n → f i = true := by
  intro n
  induction n with
  | zero => simp [alls]
  | succ n ih =>
    unfold alls
    rw [Bool.and_eq_true, ih]
    constructor
    · rintro ⟨h1, h2⟩ i hi
      rcases Nat.lt_or_ge i n with q | q
      · exact h1 i q
      · rw [show i = n by omega]; exact h2
    · intro h
      exact ⟨fun i hi => h i (by omega), h n (by omega)⟩
theorem bits_congr {f g : Nat → Bool} : ∀ {n : Nat}, (∀ p, p < n → f p = g p) → bits f n = bits g n := by
  intro n
  induction n with
  | zero => intro _; rfl
  | succ n ih => intro h; simp only [bits, ih (fun p hp => h p (by omega)), h n (by omega)]
theorem cnt_congr {f g : Nat → Bool} : ∀ {n : Nat}, (∀ p, p < n → f p = g p) → cnt f n = cnt g n := by
  intro n
  induction n with
  | zero => intro _; rfl
  | succ n ih => intro h; simp only [cnt, ih (fun p hp => h p (by omega)), h n (by omega)]
theorem sm_congr {f g : Nat → Bool} {b c : Nat → Nat} : ∀ {n : Nat}, (∀ p, p < n → f p = g p ∧ b p = c p) → sm f b n = sm g c n := by
  intro n
  induction n with
  | zero => intro _; rfl
  | succ n ih => intro h; simp only [sm, ih (fun p hp => h p (by omega)), (h n (by omega)).1, (h n (by omega)).2]
/-- an hour of a valley: where all are, how bright -/
def HB (σ : St) (v h np : Nat) (a : Nat → Int32) (b : Nat → Nat) : Prop := ∀ p, p < np → σ.1 (v + 1) (h * 8 + p) = a p ∧ σ.1 (v + 2) (h * 8 + p) = nI (b p) ∧ b p ≤ 9
def met (c s lo hi : Nat) : Prop := 0 < c ∧ lo * c ≤ s ∧ s ≤ hi * c
def metd (c s lo hi : Nat) : Bool := decide (0 < c) && (decide (lo * c ≤ s) && decide (s ≤ hi * c))
/-- the sightings as they stand -/
def SE (σ : St) (ns : Nat) (sh sp sb : Nat → Nat) : Prop := σ.1 13 3 = nI ns ∧ ns ≤ 8 ∧ ∀ k, k < ns → (σ.1 14 k = nI (sh k) ∧ sh k < 24) ∧ (σ.1 15 k = nI (sp k) ∧ sp k < 8) ∧ (σ.1 16 k = nI (sb k) ∧ sb k ≤ 9)
/-- sits q before p in the row by brightness, falling if f is 1 -/
def sits (b : Nat → Nat) (p : Nat) (f : Int32) (q : Nat) : Bool := if b q = b p then decide (q < p) else decide ((if b p < b q then nI 1 else nI 0) = f)
def bef (m : Nat) (b : Nat → Nat) (p : Nat) (f : Int32) (n : Nat) : Nat := cnt (fun q => inb m q && sits b p f q) n
def bc1 (x : Int32) : Int32 := x - ((x.toUInt32 >>> ((nI 1).toUInt32 &&& Int32.toUInt32 31)).toInt32 &&& 1431655765)
def bc2 (x : Int32) : Int32 := (x &&& 858993459) + ((x.toUInt32 >>> ((nI 2).toUInt32 &&& Int32.toUInt32 31)).toInt32 &&& 858993459)
def bc3 (x : Int32) : Int32 := (x + (x.toUInt32 >>> ((nI 4).toUInt32 &&& Int32.toUInt32 31)).toInt32) &&& 252645135
def bc4 (x : Int32) : Int32 := x + (x.toUInt32 >>> ((nI 8).toUInt32 &&& Int32.toUInt32 31)).toInt32
def bc5 (x : Int32) : Int32 := x + (x.toUInt32 >>> ((nI 16).toUInt32 &&& Int32.toUInt32 31)).toInt32
def pop (m : Nat) : Nat := cnt (inb m) 8
theorem bc_ok : ∀ m, m < 256 → bc5 (bc4 (bc3 (bc2 (bc1 (nI m))))) &&& nI 63 = nI (pop m) := by decide +kernel
theorem pop_le (m : Nat) : pop m ≤ 8 := cnt_le _ _
/-- fewer locals known -/
def wkL : List (Option Value) → List (Option Value) → Prop
  | [], [] => True
  | a :: l, b :: l' => (b = none ∨ a = b) ∧ wkL l l'
  | _, _ => False
theorem wkL_at : ∀ {L L' : List (Option Value)}, wkL L L' → ∀ (i : Nat) (v : Value), L'[i]? = some (some v) → L[i]? = some (some v) := by
  intro L
  induction L with
  | nil => intro L' h i v hi; cases L' with
    | nil => simp at hi
    | cons b l' => exact h.elim
  | cons a l ih =>
    intro L' h i v hi
    cases L' with
    | nil => simp at hi
    | cons b l' =>
      obtain ⟨h1, h2⟩ := h
      cases i with
      | zero =>
        simp only [List.getElem?_cons_zero] at hi ⊢
        rcases h1 with e | e
        · rw [e] at hi; cases hi
        · rw [e]; exact hi
      | succ i =>
        simp only [List.getElem?_cons_succ] at hi ⊢
        exact ih h2 i v hi
theorem A.eqw {G : GW} {rm : Room} {M : MR} {kw mw : Nat × Nat} {pc : Nat} {L L' : List (Option Value)} {S S' : List Value} {h : HD} {σ σ' : St} {Q : Option Value → HD → St → Prop} (hL : wkL L L') (hS : S = S') (hσ : σ = σ') (k : A G rm M kw mw pc L' S' h σ' Q) : A G rm M kw mw pc L S h σ Q := by
  subst hS hσ
  intro p e s m args below meth c ls H locs C hl hP hz hS
  exact k p e s m args below meth c ls H locs C ⟨hl.1, hl.2.1, fun i v hi => hl.2.2 i v (wkL_at hL i v hi)⟩ hP hz hS
set_option maxRecDepth 100000 in
set_option maxHeartbeats 4000000 in
theorem sX3_placeOf {G : GW} {σ : St} {K : Int32 → St → Prop} {v h p : Nat} (hv : Vv v) (hh : h < 24) (hp : p < 8) (hQ : K (σ.1 (v + 1) (h * 8 + p)) σ) : Ci G (r0 0 0) mX3_placeOf [rf G v, .int (nI h), .int (nI p)] σ K := by
  refine Ci.of [some (rf G v), some (.int (nI h)), some (.int (nI p)), none] ?_
  refine A.il1 eX3_placeOf_0 ?_
  refine A.bipush (v := nI 8) eX3_placeOf_1 (by decide) ?_
  refine A.imulN eX3_placeOf_3 ?_
  refine A.il2 eX3_placeOf_4 ?_
  refine A.iaddN eX3_placeOf_5 ?_
  refine A.is3 eX3_placeOf_6 ?_
  refine A.il3 eX3_placeOf_7 ?_
  refine A.topZ ?_
  refine A.if_ltZ eX3_placeOf_8 (fun c1 => ?_) (fun c1 => ?_)
  · exfalso; omega
  · refine A.il3 eX3_placeOf_11 ?_
    refine A.al0 eX3_placeOf_12 ?_
    refine A.getR eX3_placeOf_13 fX3_22 (kvo hv) (kvr3 hv) ?_
    refine A.alenN eX3_placeOf_16 (kv1 hv) ?_
    refine A.icmp_geN eX3_placeOf_17 (fun c2 => ?_) (fun c2 => ?_)
    · exfalso; omega
    · refine A.al0 eX3_placeOf_20 ?_
      refine A.getR eX3_placeOf_21 fX3_22 (kvo hv) (kvr3 hv) ?_
      refine A.il3 eX3_placeOf_24 ?_
      refine A.ialdN eX3_placeOf_25 (kv1 hv) ?_
      refine A.goto eX3_placeOf_26 ?_
      refine B.iret eX3_placeOf_30 ?_
      exact hQ
set_option maxRecDepth 100000 in
set_option maxHeartbeats 4000000 in
theorem sX3_brightnessOf {G : GW} {σ : St} {K : Int32 → St → Prop} {v h p : Nat} (hv : Vv v) (hh : h < 24) (hp : p < 8) (hQ : K (σ.1 (v + 2) (h * 8 + p)) σ) : Ci G (r0 0 0) mX3_brightnessOf [rf G v, .int (nI h), .int (nI p)] σ K := by
  refine Ci.of [some (rf G v), some (.int (nI h)), some (.int (nI p)), none] ?_
  refine A.il1 eX3_brightnessOf_0 ?_
  refine A.bipush (v := nI 8) eX3_brightnessOf_1 (by decide) ?_
  refine A.imulN eX3_brightnessOf_3 ?_
  refine A.il2 eX3_brightnessOf_4 ?_
  refine A.iaddN eX3_brightnessOf_5 ?_
  refine A.is3 eX3_brightnessOf_6 ?_
  refine A.il3 eX3_brightnessOf_7 ?_
  refine A.topZ ?_
  refine A.if_ltZ eX3_brightnessOf_8 (fun c1 => ?_) (fun c1 => ?_)
  · exfalso; omega
  · refine A.il3 eX3_brightnessOf_11 ?_
    refine A.al0 eX3_brightnessOf_12 ?_
    refine A.getR eX3_brightnessOf_13 fX3_26 (kvo hv) (kvr4 hv) ?_
    refine A.alenN eX3_brightnessOf_16 (kv2 hv) ?_
    refine A.icmp_geN eX3_brightnessOf_17 (fun c2 => ?_) (fun c2 => ?_)
    · exfalso; omega
    · refine A.al0 eX3_brightnessOf_20 ?_
      refine A.getR eX3_brightnessOf_21 fX3_26 (kvo hv) (kvr4 hv) ?_
      refine A.il3 eX3_brightnessOf_24 ?_
      refine A.ialdN eX3_brightnessOf_25 (kv2 hv) ?_
      refine A.goto eX3_brightnessOf_26 ?_
      refine B.iret eX3_brightnessOf_30 ?_
      exact hQ
set_option maxRecDepth 100000 in
set_option maxHeartbeats 4000000 in
theorem sX3_crowdAt {G : GW} {σ : St} {K : Int32 → St → Prop} {v h np : Nat} {a : Nat → Int32} {b : Nat → Nat} {x : Int32} (hv : Vv v) (hh : h < 24) (hnp : σ.1 1 5 = nI np) (hn8 : np ≤ 8) (hH : HB σ v h np a b) (hQ : K (nI (bits (fun p => decide (a p = x)) np)) σ) : Ci G (r0 1 23) mX3_crowdAt [rf G v, .int (nI h), .int x] σ K := by
  refine Ci.of [some (rf G v), some (.int (nI h)), some (.int x), none, none] ?_
  refine A.iconst (v := nI 0) eX3_crowdAt_0 (by decide) ?_
  refine A.is3 eX3_crowdAt_1 ?_
  refine A.iconst (v := nI 0) eX3_crowdAt_2 (by decide) ?_
  refine A.is4 eX3_crowdAt_3 ?_
  have lp : ∀ (fu i : Nat), np - i < fu → i ≤ np → B G (r0 1 23) mX3_crowdAt 5 [some (rf G v), some (.int (nI h)), some (.int x), some (.int (nI (bits (fun p => decide (a p = x)) i))), some (.int (nI i))] [] (σ) (Pi K) := by
    intro fu
    induction fu with
    | zero => intro i  h1 h2; omega
    | succ fu ih =>
      intro i  h1 h2 
      refine A.il4 eX3_crowdAt_5 ?_
      refine A.al0 eX3_crowdAt_7 ?_
      refine A.getR eX3_crowdAt_8 fX3_9 (kvo hv) (kvr0 hv) ?_
      refine A.getI eX3_crowdAt_11 fX3_66 ko1 ?_
      refine A.top hnp ?_
      refine A.icmp_geN eX3_crowdAt_14 (fun c1 => ?_) (fun c1 => ?_)
      · refine A.il3 eX3_crowdAt_41 ?_
        refine B.iret eX3_crowdAt_42 ?_
        have e : i = np := by omega
        subst e
        exact hQ
      · refine A.al0 eX3_crowdAt_17 ?_
        refine A.il1 eX3_crowdAt_18 ?_
        refine A.il4 eX3_crowdAt_19 ?_
        refine A.cVi2 eX3_crowdAt_21 oX3_placeOf kX3_94 (kvo hv) (sX3_placeOf hv hh (by omega) ?_)
        refine A.top (hH i (by omega)).1 ?_
        refine A.il2 eX3_crowdAt_24 ?_
        refine A.icmp_ne eX3_crowdAt_25 (fun c2 => ?_) (fun c2 => ?_)
        · refine A.inc4N eX3_crowdAt_35 ?_
          refine A.goto eX3_crowdAt_38 ?_
          exact A.eq (by simp [bits, c2]) rfl (by rfl) (ih (i + 1) (by omega) (by omega))
        · refine A.il3 eX3_crowdAt_28 ?_
          refine A.iconst (v := nI 1) eX3_crowdAt_29 (by decide) ?_
          refine A.il4 eX3_crowdAt_30 ?_
          refine A.ishl1 eX3_crowdAt_32 ?_
          refine A.iorN eX3_crowdAt_33 ?_
          refine A.is3 eX3_crowdAt_34 ?_
          refine A.inc4N eX3_crowdAt_35 ?_
          refine A.goto eX3_crowdAt_38 ?_
          exact A.eq (by simp [bits, c2]) rfl (by rfl) (ih (i + 1) (by omega) (by omega))
  exact lp (np + 1) 0 (by omega) (by omega)
set_option maxRecDepth 100000 in
set_option maxHeartbeats 4000000 in
theorem sX3_sumOf {G : GW} {σ : St} {K : Int32 → St → Prop} {v h np : Nat} {a : Nat → Int32} {b : Nat → Nat} {m : Nat} (hv : Vv v) (hh : h < 24) (hnp : σ.1 1 5 = nI np) (hn8 : np ≤ 8) (hH : HB σ v h np a b) (hm : m < 256) (hQ : K (nI (sm (inb m) b np)) σ) : Ci G (r0 1 23) mX3_sumOf [rf G v, .int (nI h), .int (nI m)] σ K := by
  refine Ci.of [some (rf G v), some (.int (nI h)), some (.int (nI m)), none, none] ?_
  refine A.iconst (v := nI 0) eX3_sumOf_0 (by decide) ?_
  refine A.is3 eX3_sumOf_1 ?_
  refine A.iconst (v := nI 0) eX3_sumOf_2 (by decide) ?_
  refine A.is4 eX3_sumOf_3 ?_
  have lp : ∀ (fu i : Nat), np - i < fu → i ≤ np → B G (r0 1 23) mX3_sumOf 5 [some (rf G v), some (.int (nI h)), some (.int (nI m)), some (.int (nI (sm (inb m) b i))), some (.int (nI i))] [] (σ) (Pi K) := by
    intro fu
    induction fu with
    | zero => intro i  h1 h2; omega
    | succ fu ih =>
      intro i  h1 h2 
      refine A.il4 eX3_sumOf_5 ?_
      refine A.al0 eX3_sumOf_7 ?_
      refine A.getR eX3_sumOf_8 fX3_9 (kvo hv) (kvr0 hv) ?_
      refine A.getI eX3_sumOf_11 fX3_66 ko1 ?_
      refine A.top hnp ?_
      refine A.icmp_geN eX3_sumOf_14 (fun c1 => ?_) (fun c1 => ?_)
      · refine A.il3 eX3_sumOf_43 ?_
        refine B.iret eX3_sumOf_44 ?_
        have e : i = np := by omega
        subst e
        exact hQ
      · refine A.il2 eX3_sumOf_17 ?_
        refine A.il4 eX3_sumOf_18 ?_
        refine A.ishrN eX3_sumOf_20 ?_
        refine A.iconst (v := nI 1) eX3_sumOf_21 (by decide) ?_
        refine A.iandN eX3_sumOf_22 ?_
        have hand := @Nat.and_le_right (m / 2 ^ i) 1
        refine A.iconst (v := nI 1) eX3_sumOf_23 (by decide) ?_
        refine A.icmp_neN eX3_sumOf_24 (fun c2 => ?_) (fun c2 => ?_)
        · refine A.inc4N eX3_sumOf_37 ?_
          refine A.goto eX3_sumOf_40 ?_
          exact A.eq (by first | simp [sm, inb_t c2] | simp [sm, inb_f c2]) rfl (by rfl) (ih (i + 1) (by omega) (by omega))
        · refine A.il3 eX3_sumOf_27 ?_
          refine A.al0 eX3_sumOf_28 ?_
          refine A.il1 eX3_sumOf_29 ?_
          refine A.il4 eX3_sumOf_30 ?_
          refine A.cVi2 eX3_sumOf_32 oX3_brightnessOf kX3_97 (kvo hv) (sX3_brightnessOf hv hh (by omega) ?_)
          refine A.top (hH i (by omega)).2.1 ?_
          refine A.iaddN eX3_sumOf_35 ?_
          refine A.is3 eX3_sumOf_36 ?_
          refine A.inc4N eX3_sumOf_37 ?_
          refine A.goto eX3_sumOf_40 ?_
          exact A.eq (by first | simp [sm, inb_t c2] | simp [sm, inb_f c2]) rfl (by rfl) (ih (i + 1) (by omega) (by omega))
  exact lp (np + 1) 0 (by omega) (by omega)
set_option maxRecDepth 100000 in
set_option maxHeartbeats 4000000 in
theorem sX3_isMet {G : GW} {σ : St} {K : Int32 → St → Prop} {v h np : Nat} {a : Nat → Int32} {b : Nat → Nat} {x lo hi : Nat} (hv : Vv v) (hh : h < 24) (hnp : σ.1 1 5 = nI np) (hn8 : np ≤ 8) (hH : HB σ v h np a b) (hlo : σ.1 7 x = nI lo) (hlo9 : lo ≤ 9) (hhi : σ.1 8 x = nI hi) (hhi9 : hi ≤ 9) (hx : x < 6) (hQ : K (bI (metd (cnt (fun p => decide (a p = nI x)) np) (sm (fun p => decide (a p = nI x)) b np) lo hi = true)) σ) : Ci G (r0 2 42) mX3_isMet [rf G v, .int (nI h), .int (nI x)] σ K := by
  refine Ci.of [some (rf G v), some (.int (nI h)), some (.int (nI x)), none, none, none] ?_
  refine A.iconst (v := nI 0) eX3_isMet_0 (by decide) ?_
  refine A.is3 eX3_isMet_1 ?_
  refine A.iconst (v := nI 0) eX3_isMet_2 (by decide) ?_
  refine A.is4 eX3_isMet_3 ?_
  refine A.iconst (v := nI 0) eX3_isMet_5 (by decide) ?_
  refine A.is5 eX3_isMet_6 ?_
  have lp : ∀ (fu i : Nat), np - i < fu → i ≤ np → B G (r0 2 42) mX3_isMet 8 [some (rf G v), some (.int (nI h)), some (.int (nI x)), some (.int (nI (cnt (fun p => decide (a p = nI x)) i))), some (.int (nI (sm (fun p => decide (a p = nI x)) b i))), some (.int (nI i))] [] (σ) (Pi K) := by
    intro fu
    induction fu with
    | zero => intro i  h1 h2; omega
    | succ fu ih =>
      intro i  h1 h2 
      refine A.il5 eX3_isMet_8 ?_
      refine A.al0 eX3_isMet_10 ?_
      refine A.getR eX3_isMet_11 fX3_9 (kvo hv) (kvr0 hv) ?_
      refine A.getI eX3_isMet_14 fX3_66 ko1 ?_
      refine A.top hnp ?_
      refine A.icmp_geN eX3_isMet_17 (fun c1 => ?_) (fun c1 => ?_)
      · have e : i = np := by omega
        subst e
        have b1 := cnt_le (fun p => decide (a p = nI x)) i
        have b2 := sm_le (f := (fun p => decide (a p = nI x))) (fun p hp => (hH p hp).2.2)
        have b3 : lo * cnt (fun p => decide (a p = nI x)) i ≤ 9 * 8 := Nat.mul_le_mul hlo9 (by omega)
        have b4 : hi * cnt (fun p => decide (a p = nI x)) i ≤ 9 * 8 := Nat.mul_le_mul hhi9 (by omega)
        refine A.il3 eX3_isMet_52 ?_
        refine A.topZ ?_
        refine A.if_leZ eX3_isMet_53 (fun d1 => ?_) (fun d1 => ?_)
        · refine A.iconst (v := nI 0) eX3_isMet_90 (by decide) ?_
          refine B.zret eX3_isMet_91 (by decide) ?_
          (first | exact vl_of hQ (bI_t (by simp [metd]; omega)).symm | exact vl_of hQ (bI_f (by simp [metd]; omega)).symm)
        · refine A.il4 eX3_isMet_56 ?_
          refine A.al0 eX3_isMet_58 ?_
          refine A.getR eX3_isMet_59 fX3_15 (kvo hv) (kvr1 hv) ?_
          refine A.il2 eX3_isMet_62 ?_
          refine A.cVi1 eX3_isMet_63 oX0_first kX3_71 ko5 (sX0_first (u := 5) (Or.inr rfl) (show x < 6 from hx) ?_)
          refine A.top (show σ.1 (5 + 2) x = nI lo from hlo) ?_
          refine A.il3 eX3_isMet_66 ?_
          refine A.imulN eX3_isMet_67 ?_
          refine A.icmp_ltN eX3_isMet_68 (fun d2 => ?_) (fun d2 => ?_)
          · refine A.iconst (v := nI 0) eX3_isMet_90 (by decide) ?_
            refine B.zret eX3_isMet_91 (by decide) ?_
            (first | exact vl_of hQ (bI_t (by simp [metd]; omega)).symm | exact vl_of hQ (bI_f (by simp [metd]; omega)).symm)
          · refine A.il4 eX3_isMet_71 ?_
            refine A.al0 eX3_isMet_73 ?_
            refine A.getR eX3_isMet_74 fX3_15 (kvo hv) (kvr1 hv) ?_
            refine A.il2 eX3_isMet_77 ?_
            refine A.cVi1 eX3_isMet_78 oX0_second kX3_100 ko5 (sX0_second (u := 5) (Or.inr rfl) (show x < 6 from hx) ?_)
            refine A.top (show σ.1 (5 + 3) x = nI hi from hhi) ?_
            refine A.il3 eX3_isMet_81 ?_
            refine A.imulN eX3_isMet_82 ?_
            refine A.icmp_gtN eX3_isMet_83 (fun d3 => ?_) (fun d3 => ?_)
            · refine A.iconst (v := nI 0) eX3_isMet_90 (by decide) ?_
              refine B.zret eX3_isMet_91 (by decide) ?_
              (first | exact vl_of hQ (bI_t (by simp [metd]; omega)).symm | exact vl_of hQ (bI_f (by simp [metd]; omega)).symm)
            · refine A.iconst (v := nI 1) eX3_isMet_86 (by decide) ?_
              refine A.goto eX3_isMet_87 ?_
              refine B.zret eX3_isMet_91 (by decide) ?_
              (first | exact vl_of hQ (bI_t (by simp [metd]; omega)).symm | exact vl_of hQ (bI_f (by simp [metd]; omega)).symm)
      · refine A.al0 eX3_isMet_20 ?_
        refine A.il1 eX3_isMet_21 ?_
        refine A.il5 eX3_isMet_22 ?_
        refine A.cVi2 eX3_isMet_24 oX3_placeOf kX3_94 (kvo hv) (sX3_placeOf hv hh (by omega) ?_)
        refine A.top (hH i (by omega)).1 ?_
        refine A.il2 eX3_isMet_27 ?_
        refine A.icmp_ne eX3_isMet_28 (fun c2 => ?_) (fun c2 => ?_)
        · refine A.inc5N eX3_isMet_46 ?_
          refine A.goto eX3_isMet_49 ?_
          exact A.eq (by simp [cnt, sm, c2]) rfl (by rfl) (ih (i + 1) (by omega) (by omega))
        · refine A.inc3N eX3_isMet_31 ?_
          refine A.il4 eX3_isMet_34 ?_
          refine A.al0 eX3_isMet_36 ?_
          refine A.il1 eX3_isMet_37 ?_
          refine A.il5 eX3_isMet_38 ?_
          refine A.cVi2 eX3_isMet_40 oX3_brightnessOf kX3_97 (kvo hv) (sX3_brightnessOf hv hh (by omega) ?_)
          refine A.top (hH i (by omega)).2.1 ?_
          refine A.iaddN eX3_isMet_43 ?_
          refine A.is4 eX3_isMet_44 ?_
          refine A.inc5N eX3_isMet_46 ?_
          refine A.goto eX3_isMet_49 ?_
          exact A.eq (by simp [cnt, sm, c2]) rfl (by rfl) (ih (i + 1) (by omega) (by omega))
  exact lp (np + 1) 0 (by omega) (by omega)
set_option maxRecDepth 100000 in
set_option maxHeartbeats 4000000 in
theorem sJ6_bitCount_0f7a4 {G : GW} {σ : St} {K : Int32 → St → Prop} {m : Nat} (hm : m < 256) (hQ : K (nI (pop m)) σ) : Ci G (r0 0 0) mJ6_bitCount_0f7a4 [.int (nI m)] σ K := by
  refine Ci.of [some (.int (nI m))] ?_
  refine A.il0 eJ6_bitCount_0f7a4_0 ?_
  refine A.il0 eJ6_bitCount_0f7a4_1 ?_
  refine A.iconst (v := nI 1) eJ6_bitCount_0f7a4_2 (by decide) ?_
  refine A.iushr eJ6_bitCount_0f7a4_3 rfl ?_
  refine A.ldcw eJ6_bitCount_0f7a4_4 nJ6_265 ?_
  refine A.iand eJ6_bitCount_0f7a4_7 ?_
  refine A.isub eJ6_bitCount_0f7a4_8 ?_
  refine A.is0 eJ6_bitCount_0f7a4_9 ?_
  refine A.il0 eJ6_bitCount_0f7a4_10 ?_
  refine A.ldcw eJ6_bitCount_0f7a4_11 nJ6_266 ?_
  refine A.iand eJ6_bitCount_0f7a4_14 ?_
  refine A.il0 eJ6_bitCount_0f7a4_15 ?_
  refine A.iconst (v := nI 2) eJ6_bitCount_0f7a4_16 (by decide) ?_
  refine A.iushr eJ6_bitCount_0f7a4_17 rfl ?_
  refine A.ldcw eJ6_bitCount_0f7a4_18 nJ6_266 ?_
  refine A.iand eJ6_bitCount_0f7a4_21 ?_
  refine A.iadd eJ6_bitCount_0f7a4_22 ?_
  refine A.is0 eJ6_bitCount_0f7a4_23 ?_
  refine A.il0 eJ6_bitCount_0f7a4_24 ?_
  refine A.il0 eJ6_bitCount_0f7a4_25 ?_
  refine A.iconst (v := nI 4) eJ6_bitCount_0f7a4_26 (by decide) ?_
  refine A.iushr eJ6_bitCount_0f7a4_27 rfl ?_
  refine A.iadd eJ6_bitCount_0f7a4_28 ?_
  refine A.ldcw eJ6_bitCount_0f7a4_29 nJ6_267 ?_
  refine A.iand eJ6_bitCount_0f7a4_32 ?_
  refine A.is0 eJ6_bitCount_0f7a4_33 ?_
  refine A.il0 eJ6_bitCount_0f7a4_34 ?_
  refine A.il0 eJ6_bitCount_0f7a4_35 ?_
  refine A.bipush (v := nI 8) eJ6_bitCount_0f7a4_36 (by decide) ?_
  refine A.iushr eJ6_bitCount_0f7a4_38 rfl ?_
  refine A.iadd eJ6_bitCount_0f7a4_39 ?_
  refine A.is0 eJ6_bitCount_0f7a4_40 ?_
  refine A.il0 eJ6_bitCount_0f7a4_41 ?_
  refine A.il0 eJ6_bitCount_0f7a4_42 ?_
  refine A.bipush (v := nI 16) eJ6_bitCount_0f7a4_43 (by decide) ?_
  refine A.iushr eJ6_bitCount_0f7a4_45 rfl ?_
  refine A.iadd eJ6_bitCount_0f7a4_46 ?_
  refine A.is0 eJ6_bitCount_0f7a4_47 ?_
  refine A.il0 eJ6_bitCount_0f7a4_48 ?_
  refine A.bipush (v := nI 63) eJ6_bitCount_0f7a4_49 (by decide) ?_
  refine A.iand eJ6_bitCount_0f7a4_51 ?_
  refine B.iret eJ6_bitCount_0f7a4_52 ?_
  exact vl_of hQ (bc_ok m hm)
set_option maxRecDepth 100000 in
set_option maxHeartbeats 4000000 in
theorem sX3_isClear {G : GW} {σ : St} {K : Int32 → St → Prop} {v h np : Nat} {a : Nat → Int32} {b : Nat → Nat} {m w : Nat} (hv : Vv v) (hh : h < 24) (hnp : σ.1 1 5 = nI np) (hn8 : np ≤ 8) (hH : HB σ v h np a b) (hm : m < 256) (hw : w ≤ 9) (hQ : K (bI (w * pop m ≤ sm (inb m) b np)) σ) : Ci G (r0 2 47) mX3_isClear [rf G v, .int (nI h), .int (nI m), .int (nI w)] σ K := by
  refine Ci.of [some (rf G v), some (.int (nI h)), some (.int (nI m)), some (.int (nI w))] ?_
  refine A.al0 eX3_isClear_0 ?_
  refine A.il1 eX3_isClear_1 ?_
  refine A.il2 eX3_isClear_2 ?_
  refine A.cVi2 eX3_isClear_3 oX3_sumOf kX3_103 (kvo hv) (sX3_sumOf hv hh hnp hn8 hH hm ?_)
  refine A.il3 eX3_isClear_6 ?_
  refine A.il2 eX3_isClear_7 ?_
  refine A.cSi1 eX3_isClear_8 oJ6_bitCount_0f7a4 kX3_106 (sJ6_bitCount_0f7a4 hm ?_)
  have b1 := pop_le m
  have b2 := sm_le (f := inb m) (fun p hp => (hH p hp).2.2)
  have b3 : w * pop m ≤ 9 * 8 := Nat.mul_le_mul hw (by omega)
  refine A.imulN eX3_isClear_11 ?_
  refine A.icmp_ltN eX3_isClear_12 (fun c1 => ?_) (fun c1 => ?_)
  · refine A.iconst (v := nI 0) eX3_isClear_19 (by decide) ?_
    refine B.zret eX3_isClear_20 (by decide) ?_
    (first | exact vl_of hQ (bI_t (by omega)).symm | exact vl_of hQ (bI_f (by omega)).symm)
  · refine A.iconst (v := nI 1) eX3_isClear_15 (by decide) ?_
    refine A.goto eX3_isClear_16 ?_
    refine B.zret eX3_isClear_20 (by decide) ?_
    (first | exact vl_of hQ (bI_t (by omega)).symm | exact vl_of hQ (bI_f (by omega)).symm)
set_option maxRecDepth 100000 in
set_option maxHeartbeats 4000000 in
theorem sX3_metHours {G : GW} {σ : St} {K : Int32 → St → Prop} {v np : Nat} {a : Nat → Nat → Int32} {b : Nat → Nat → Nat} {x lo hi : Nat} (hv : Vv v) (hnp : σ.1 1 5 = nI np) (hn8 : np ≤ 8) (hH : ∀ h, h < 24 → HB σ v h np (a h) (b h)) (hlo : σ.1 7 x = nI lo) (hlo9 : lo ≤ 9) (hhi : σ.1 8 x = nI hi) (hhi9 : hi ≤ 9) (hx : x < 6) (hQ : K (nI (bits (fun h => metd (cnt (fun p => decide (a h p = nI x)) np) (sm (fun p => decide (a h p = nI x)) (b h) np) lo hi) 24)) σ) : Ci G (r0 3 67) mX3_metHours [rf G v, .int (nI x)] σ K := by
  refine Ci.of [some (rf G v), some (.int (nI x)), none, none] ?_
  refine A.iconst (v := nI 0) eX3_metHours_0 (by decide) ?_
  refine A.is2 eX3_metHours_1 ?_
  refine A.iconst (v := nI 0) eX3_metHours_2 (by decide) ?_
  refine A.is3 eX3_metHours_3 ?_
  have lp : ∀ (fu i : Nat), 24 - i < fu → i ≤ 24 → B G (r0 3 67) mX3_metHours 4 [some (rf G v), some (.int (nI x)), some (.int (nI (bits (fun h => metd (cnt (fun p => decide (a h p = nI x)) np) (sm (fun p => decide (a h p = nI x)) (b h) np) lo hi) i))), some (.int (nI i))] [] (σ) (Pi K) := by
    intro fu
    induction fu with
    | zero => intro i  h1 h2; omega
    | succ fu ih =>
      intro i  h1 h2 
      refine A.il3 eX3_metHours_4 ?_
      refine A.bipush (v := nI 24) eX3_metHours_5 (by decide) ?_
      refine A.icmp_geN eX3_metHours_7 (fun c1 => ?_) (fun c1 => ?_)
      · refine A.il2 eX3_metHours_31 ?_
        refine B.iret eX3_metHours_32 ?_
        have e : i = 24 := by omega
        subst e
        exact hQ
      · refine A.al0 eX3_metHours_10 ?_
        refine A.il3 eX3_metHours_11 ?_
        refine A.il1 eX3_metHours_12 ?_
        refine A.cVi2 eX3_metHours_13 oX3_isMet kX3_111 (kvo hv) (sX3_isMet hv (by omega) hnp hn8 (hH i (by omega)) hlo hlo9 hhi hhi9 hx ?_)
        refine A.if_eqB eX3_metHours_16 (fun c2 => ?_) (fun c2 => ?_)
        · refine A.inc3N eX3_metHours_25 ?_
          refine A.goto eX3_metHours_28 ?_
          exact A.eq (by simp [bits, c2]) rfl (by rfl) (ih (i + 1) (by omega) (by omega))
        · refine A.il2 eX3_metHours_19 ?_
          refine A.iconst (v := nI 1) eX3_metHours_20 (by decide) ?_
          refine A.il3 eX3_metHours_21 ?_
          refine A.ishl1 eX3_metHours_22 ?_
          refine A.iorN eX3_metHours_23 ?_
          refine A.is2 eX3_metHours_24 ?_
          refine A.inc3N eX3_metHours_25 ?_
          refine A.goto eX3_metHours_28 ?_
          exact A.eq (by simp [bits, c2]) rfl (by rfl) (ih (i + 1) (by omega) (by omega))
  exact lp (24 + 1) 0 (by omega) (by omega)
set_option maxRecDepth 100000 in
set_option maxHeartbeats 4000000 in
theorem sX3_isAlike {G : GW} {σ : St} {K : Int32 → St → Prop} {v h g np : Nat} {a a2 : Nat → Int32} {b b2 : Nat → Nat} (hv : Vv v) (hh : h < 24) (hg : g < 24) (hnp : σ.1 1 5 = nI np) (hn8 : np ≤ 8) (hH : HB σ v h np a b) (hH2 : HB σ v g np a2 b2) (hQ : K (bI (alls (fun p => decide (b p = b2 p)) np = true)) σ) : Ci G (r0 1 23) mX3_isAlike [rf G v, .int (nI h), .int (nI g)] σ K := by
  refine Ci.of [some (rf G v), some (.int (nI h)), some (.int (nI g)), none] ?_
  refine A.iconst (v := nI 0) eX3_isAlike_0 (by decide) ?_
  refine A.is3 eX3_isAlike_1 ?_
  have lp : ∀ (fu i : Nat), np - i < fu → i ≤ np → alls (fun p => decide (b p = b2 p)) i = true → B G (r0 1 23) mX3_isAlike 2 [some (rf G v), some (.int (nI h)), some (.int (nI g)), some (.int (nI i))] [] (σ) (Pi K) := by
    intro fu
    induction fu with
    | zero => intro i  h1 h2; omega
    | succ fu ih =>
      intro i  h1 h2 ha
      refine A.il3 eX3_isAlike_2 ?_
      refine A.al0 eX3_isAlike_3 ?_
      refine A.getR eX3_isAlike_4 fX3_9 (kvo hv) (kvr0 hv) ?_
      refine A.getI eX3_isAlike_7 fX3_66 ko1 ?_
      refine A.top hnp ?_
      refine A.icmp_geN eX3_isAlike_10 (fun c1 => ?_) (fun c1 => ?_)
      · refine A.iconst (v := nI 1) eX3_isAlike_36 (by decide) ?_
        refine B.zret eX3_isAlike_37 (by decide) ?_
        have e : i = np := by omega
        subst e
        exact vl_of hQ (bI_t ha).symm
      · refine A.al0 eX3_isAlike_13 ?_
        refine A.il1 eX3_isAlike_14 ?_
        refine A.il3 eX3_isAlike_15 ?_
        refine A.cVi2 eX3_isAlike_16 oX3_brightnessOf kX3_97 (kvo hv) (sX3_brightnessOf hv hh (by omega) ?_)
        refine A.top (hH i (by omega)).2.1 ?_
        refine A.al0 eX3_isAlike_19 ?_
        refine A.il2 eX3_isAlike_20 ?_
        refine A.il3 eX3_isAlike_21 ?_
        refine A.cVi2 eX3_isAlike_22 oX3_brightnessOf kX3_97 (kvo hv) (sX3_brightnessOf hv hg (by omega) ?_)
        refine A.top (hH2 i (by omega)).2.1 ?_
        have b1 := (hH i (by omega)).2.2
        have b2 := (hH2 i (by omega)).2.2
        refine A.icmp_eqN eX3_isAlike_25 (fun c2 => ?_) (fun c2 => ?_)
        · refine A.inc3N eX3_isAlike_30 ?_
          refine A.goto eX3_isAlike_33 ?_
          exact ih (i + 1) (by omega) (by omega) (by simp [alls, ha, c2])
        · refine A.iconst (v := nI 0) eX3_isAlike_28 (by decide) ?_
          refine B.zret eX3_isAlike_29 (by decide) ?_
          exact vl_of hQ (bI_f (fun z => c2 (by simpa using alls_of.mp z i (by omega)))).symm
  exact lp (np + 1) 0 (by omega) (by omega) rfl
set_option maxRecDepth 100000 in
set_option maxHeartbeats 4000000 in
theorem sX3_comesOut {G : GW} {σ : St} {K : Int32 → St → Prop} {v np : Nat} {a : Nat → Nat → Int32} {b : Nat → Nat → Nat} {ns : Nat} {sh sp sb : Nat → Nat} (hv : Vv v) (hnp : σ.1 1 5 = nI np) (hn8 : np ≤ 8) (hH : ∀ h, h < 24 → HB σ v h np (a h) (b h)) (hS : SE σ ns sh sp sb) (hQ : K (bI (alls (fun k => decide (sp k < np) && decide (b (sh k) (sp k) = sb k)) ns = true)) σ) : Ci G (r0 1 23) mX3_comesOut [rf G v, rf G 13] σ K := by
  refine Ci.of [some (rf G v), some (rf G 13), none, none] ?_
  obtain ⟨s1, s2, s3⟩ := hS
  refine A.iconst (v := nI 0) eX3_comesOut_0 (by decide) ?_
  refine A.is2 eX3_comesOut_1 ?_
  have lp : ∀ (fu i : Nat) (y : Option Value), ns - i < fu → i ≤ ns → alls (fun k => decide (sp k < np) && decide (b (sh k) (sp k) = sb k)) i = true → B G (r0 1 23) mX3_comesOut 2 [some (rf G v), some (rf G 13), some (.int (nI i)), y] [] (σ) (Pi K) := by
    intro fu
    induction fu with
    | zero => intro i y h1 h2; omega
    | succ fu ih =>
      intro i y h1 h2 ha
      refine A.il2 eX3_comesOut_2 ?_
      refine A.al1 eX3_comesOut_3 ?_
      refine A.getI eX3_comesOut_4 fX3_48 ko13 ?_
      refine A.top s1 ?_
      refine A.icmp_geN eX3_comesOut_7 (fun c1 => ?_) (fun c1 => ?_)
      · refine A.iconst (v := nI 1) eX3_comesOut_56 (by decide) ?_
        refine B.zret eX3_comesOut_57 (by decide) ?_
        have e : i = ns := by omega
        subst e
        exact vl_of hQ (bI_t ha).symm
      · refine A.al1 eX3_comesOut_10 ?_
        refine A.getR eX3_comesOut_11 fX3_56 ko13 kr13_1 ?_
        refine A.il2 eX3_comesOut_14 ?_
        refine A.ialdN eX3_comesOut_15 ka15 ?_
        refine A.top (s3 i (by omega)).2.1.1 ?_
        have r1 := s3 i (by omega)
        refine A.is3 eX3_comesOut_16 ?_
        refine A.il3 eX3_comesOut_17 ?_
        refine A.al0 eX3_comesOut_18 ?_
        refine A.getR eX3_comesOut_19 fX3_9 (kvo hv) (kvr0 hv) ?_
        refine A.getI eX3_comesOut_22 fX3_66 ko1 ?_
        refine A.top hnp ?_
        refine A.icmp_geN eX3_comesOut_25 (fun c2 => ?_) (fun c2 => ?_)
        · refine A.iconst (v := nI 0) eX3_comesOut_48 (by decide) ?_
          refine B.zret eX3_comesOut_49 (by decide) ?_
          (first | exact vl_of hQ (bI_f (fun z => c3 (by have := alls_of.mp z i (by omega); simp at this; omega))).symm | exact vl_of hQ (bI_f (fun z => by have := alls_of.mp z i (by omega); simp at this; omega)).symm)
        · refine A.al0 eX3_comesOut_28 ?_
          refine A.al1 eX3_comesOut_29 ?_
          refine A.getR eX3_comesOut_30 fX3_53 ko13 kr13_0 ?_
          refine A.il2 eX3_comesOut_33 ?_
          refine A.ialdN eX3_comesOut_34 ka14 ?_
          refine A.top (s3 i (by omega)).1.1 ?_
          refine A.il3 eX3_comesOut_35 ?_
          refine A.cVi2 eX3_comesOut_36 oX3_brightnessOf kX3_97 (kvo hv) (sX3_brightnessOf hv r1.1.2 r1.2.1.2 ?_)
          refine A.top (hH (sh i) r1.1.2 (sp i) (by omega)).2.1 ?_
          have r2 := (hH (sh i) r1.1.2 (sp i) (by omega)).2.2
          refine A.al1 eX3_comesOut_39 ?_
          refine A.getR eX3_comesOut_40 fX3_59 ko13 kr13_2 ?_
          refine A.il2 eX3_comesOut_43 ?_
          refine A.ialdN eX3_comesOut_44 ka16 ?_
          refine A.top (s3 i (by omega)).2.2.1 ?_
          refine A.icmp_eqN eX3_comesOut_45 (fun c3 => ?_) (fun c3 => ?_)
          · refine A.inc2N eX3_comesOut_50 ?_
            refine A.goto eX3_comesOut_53 ?_
            exact ih (i + 1) _ (by omega) (by omega) (by simp [alls, ha, c2, c3])
          · refine A.iconst (v := nI 0) eX3_comesOut_48 (by decide) ?_
            refine B.zret eX3_comesOut_49 (by decide) ?_
            (first | exact vl_of hQ (bI_f (fun z => c3 (by have := alls_of.mp z i (by omega); simp at this; omega))).symm | exact vl_of hQ (bI_f (fun z => by have := alls_of.mp z i (by omega); simp at this; omega)).symm)
  exact lp (ns + 1) 0 _ (by omega) (by omega) rfl
set_option maxRecDepth 100000 in
set_option maxHeartbeats 4000000 in
theorem sX3_seatsBefore {G : GW} {σ : St} {K : Int32 → St → Prop} {v h np : Nat} {a : Nat → Int32} {b : Nat → Nat} {m p : Nat} {f : Int32} (hv : Vv v) (hh : h < 24) (hnp : σ.1 1 5 = nI np) (hn8 : np ≤ 8) (hH : HB σ v h np a b) (hm : m < 256) (hp : p < np) (hQ : K (nI (bef m b p f np)) σ) : Ci G (r0 1 23) mX3_seatsBefore [rf G v, .int (nI h), .int (nI m), .int (nI p), .int f] σ K := by
  refine Ci.of [some (rf G v), some (.int (nI h)), some (.int (nI m)), some (.int (nI p)), some (.int f), none, none, none, none, none] ?_
  refine A.al0 eX3_seatsBefore_0 ?_
  refine A.il1 eX3_seatsBefore_1 ?_
  refine A.il3 eX3_seatsBefore_2 ?_
  refine A.cVi2 eX3_seatsBefore_3 oX3_brightnessOf kX3_97 (kvo hv) (sX3_brightnessOf hv hh (by omega) ?_)
  refine A.top (hH p hp).2.1 ?_
  refine A.is5 eX3_seatsBefore_6 ?_
  refine A.iconst (v := nI 0) eX3_seatsBefore_8 (by decide) ?_
  refine A.is6 eX3_seatsBefore_9 ?_
  refine A.iconst (v := nI 0) eX3_seatsBefore_11 (by decide) ?_
  refine A.is7 eX3_seatsBefore_12 ?_
  have lp : ∀ (fu i : Nat), np - i < fu → i ≤ np → B G (r0 1 23) mX3_seatsBefore 14 [some (rf G v), some (.int (nI h)), some (.int (nI m)), some (.int (nI p)), some (.int f), some (.int (nI (b p))), some (.int (nI (cnt (fun q => inb m q && sits b p f q) i))), some (.int (nI i)), none, none] [] (σ) (Pi K) := by
    intro fu
    induction fu with
    | zero => intro i  h1 h2; omega
    | succ fu ih =>
      intro i  h1 h2 
      refine A.il7 eX3_seatsBefore_14 ?_
      refine A.al0 eX3_seatsBefore_16 ?_
      refine A.getR eX3_seatsBefore_17 fX3_9 (kvo hv) (kvr0 hv) ?_
      refine A.getI eX3_seatsBefore_20 fX3_66 ko1 ?_
      refine A.top hnp ?_
      refine A.icmp_geN eX3_seatsBefore_23 (fun c1 => ?_) (fun c1 => ?_)
      · refine A.il6 eX3_seatsBefore_104 ?_
        refine B.iret eX3_seatsBefore_106 ?_
        have e : i = np := by omega
        subst e
        exact hQ
      · refine A.al0 eX3_seatsBefore_26 ?_
        refine A.il1 eX3_seatsBefore_27 ?_
        refine A.il7 eX3_seatsBefore_28 ?_
        refine A.cVi2 eX3_seatsBefore_30 oX3_brightnessOf kX3_97 (kvo hv) (sX3_brightnessOf hv hh (by omega) ?_)
        refine A.top (hH i (by omega)).2.1 ?_
        have b1 := (hH i (by omega)).2.2
        have b0 := (hH p hp).2.2
        refine A.is8 eX3_seatsBefore_33 ?_
        refine A.il8 eX3_seatsBefore_35 ?_
        refine A.il5 eX3_seatsBefore_37 ?_
        refine A.icmp_neN eX3_seatsBefore_39 (fun c2 => ?_) (fun c2 => ?_)
        · refine A.il8 eX3_seatsBefore_56 ?_
          refine A.il5 eX3_seatsBefore_58 ?_
          refine A.icmp_leN eX3_seatsBefore_60 (fun c4 => ?_) (fun c4 => ?_)
          · refine A.iconst (v := nI 0) eX3_seatsBefore_67 (by decide) ?_
            refine A.il4 eX3_seatsBefore_68 ?_
            refine A.icmp_ne eX3_seatsBefore_70 (fun c5 => ?_) (fun c5 => ?_)
            · refine A.iconst (v := nI 0) eX3_seatsBefore_77 (by decide) ?_
              have hsit : sits b p f i = false := by
                unfold sits
                first
                  | (rw [if_pos c2]; simp; omega)
                  | (rw [if_neg c2, if_pos (show b p < b i by omega)]; simp [c5])
                  | (rw [if_neg c2, if_neg (show ¬ b p < b i by omega)]; simp [c5])
              refine A.is9 eX3_seatsBefore_78 ?_
              refine A.il2 eX3_seatsBefore_80 ?_
              refine A.il7 eX3_seatsBefore_81 ?_
              refine A.ishrN eX3_seatsBefore_83 ?_
              refine A.iconst (v := nI 1) eX3_seatsBefore_84 (by decide) ?_
              refine A.iandN eX3_seatsBefore_85 ?_
              have hand := @Nat.and_le_right (m / 2 ^ i) 1
              refine A.iconst (v := nI 1) eX3_seatsBefore_86 (by decide) ?_
              refine A.icmp_neN eX3_seatsBefore_87 (fun c6 => ?_) (fun c6 => ?_)
              · refine A.inc7N eX3_seatsBefore_98 ?_
                refine A.goto eX3_seatsBefore_101 ?_
                exact A.eqw (by first | simp [wkL, cnt, inb_t c6, hsit] | simp [wkL, cnt, inb_f c6, hsit]) rfl (by rfl) (ih (i + 1) (by omega) (by omega))
              · refine A.il9 eX3_seatsBefore_90 ?_
                refine A.if_eqN eX3_seatsBefore_92 (fun c7 => ?_) (fun c7 => ?_)
                · refine A.inc7N eX3_seatsBefore_98 ?_
                  refine A.goto eX3_seatsBefore_101 ?_
                  exact A.eqw (by first | simp [wkL, cnt, inb_t c6, hsit] | simp [wkL, cnt, inb_f c6, hsit]) rfl (by rfl) (ih (i + 1) (by omega) (by omega))
                · exact absurd rfl c7
            · refine A.iconst (v := nI 1) eX3_seatsBefore_73 (by decide) ?_
              refine A.goto eX3_seatsBefore_74 ?_
              have hsit : sits b p f i = true := by
                unfold sits
                first
                  | (rw [if_pos c2]; simp; omega)
                  | (rw [if_neg c2, if_pos (show b p < b i by omega)]; simp [c5])
                  | (rw [if_neg c2, if_neg (show ¬ b p < b i by omega)]; simp [c5])
              refine A.is9 eX3_seatsBefore_78 ?_
              refine A.il2 eX3_seatsBefore_80 ?_
              refine A.il7 eX3_seatsBefore_81 ?_
              refine A.ishrN eX3_seatsBefore_83 ?_
              refine A.iconst (v := nI 1) eX3_seatsBefore_84 (by decide) ?_
              refine A.iandN eX3_seatsBefore_85 ?_
              have hand := @Nat.and_le_right (m / 2 ^ i) 1
              refine A.iconst (v := nI 1) eX3_seatsBefore_86 (by decide) ?_
              refine A.icmp_neN eX3_seatsBefore_87 (fun c6 => ?_) (fun c6 => ?_)
              · refine A.inc7N eX3_seatsBefore_98 ?_
                refine A.goto eX3_seatsBefore_101 ?_
                exact A.eqw (by first | simp [wkL, cnt, inb_t c6, hsit] | simp [wkL, cnt, inb_f c6, hsit]) rfl (by rfl) (ih (i + 1) (by omega) (by omega))
              · refine A.il9 eX3_seatsBefore_90 ?_
                refine A.if_eqN eX3_seatsBefore_92 (fun c7 => ?_) (fun c7 => ?_)
                · exact absurd c7 (by decide)
                · refine A.inc6N eX3_seatsBefore_95 ?_
                  refine A.inc7N eX3_seatsBefore_98 ?_
                  refine A.goto eX3_seatsBefore_101 ?_
                  exact A.eqw (by first | simp [wkL, cnt, inb_t c6, hsit] | simp [wkL, cnt, inb_f c6, hsit]) rfl (by rfl) (ih (i + 1) (by omega) (by omega))
          · refine A.iconst (v := nI 1) eX3_seatsBefore_63 (by decide) ?_
            refine A.goto eX3_seatsBefore_64 ?_
            refine A.il4 eX3_seatsBefore_68 ?_
            refine A.icmp_ne eX3_seatsBefore_70 (fun c5 => ?_) (fun c5 => ?_)
            · refine A.iconst (v := nI 0) eX3_seatsBefore_77 (by decide) ?_
              have hsit : sits b p f i = false := by
                unfold sits
                first
                  | (rw [if_pos c2]; simp; omega)
                  | (rw [if_neg c2, if_pos (show b p < b i by omega)]; simp [c5])
                  | (rw [if_neg c2, if_neg (show ¬ b p < b i by omega)]; simp [c5])
              refine A.is9 eX3_seatsBefore_78 ?_
              refine A.il2 eX3_seatsBefore_80 ?_
              refine A.il7 eX3_seatsBefore_81 ?_
              refine A.ishrN eX3_seatsBefore_83 ?_
              refine A.iconst (v := nI 1) eX3_seatsBefore_84 (by decide) ?_
              refine A.iandN eX3_seatsBefore_85 ?_
              have hand := @Nat.and_le_right (m / 2 ^ i) 1
              refine A.iconst (v := nI 1) eX3_seatsBefore_86 (by decide) ?_
              refine A.icmp_neN eX3_seatsBefore_87 (fun c6 => ?_) (fun c6 => ?_)
              · refine A.inc7N eX3_seatsBefore_98 ?_
                refine A.goto eX3_seatsBefore_101 ?_
                exact A.eqw (by first | simp [wkL, cnt, inb_t c6, hsit] | simp [wkL, cnt, inb_f c6, hsit]) rfl (by rfl) (ih (i + 1) (by omega) (by omega))
              · refine A.il9 eX3_seatsBefore_90 ?_
                refine A.if_eqN eX3_seatsBefore_92 (fun c7 => ?_) (fun c7 => ?_)
                · refine A.inc7N eX3_seatsBefore_98 ?_
                  refine A.goto eX3_seatsBefore_101 ?_
                  exact A.eqw (by first | simp [wkL, cnt, inb_t c6, hsit] | simp [wkL, cnt, inb_f c6, hsit]) rfl (by rfl) (ih (i + 1) (by omega) (by omega))
                · exact absurd rfl c7
            · refine A.iconst (v := nI 1) eX3_seatsBefore_73 (by decide) ?_
              refine A.goto eX3_seatsBefore_74 ?_
              have hsit : sits b p f i = true := by
                unfold sits
                first
                  | (rw [if_pos c2]; simp; omega)
                  | (rw [if_neg c2, if_pos (show b p < b i by omega)]; simp [c5])
                  | (rw [if_neg c2, if_neg (show ¬ b p < b i by omega)]; simp [c5])
              refine A.is9 eX3_seatsBefore_78 ?_
              refine A.il2 eX3_seatsBefore_80 ?_
              refine A.il7 eX3_seatsBefore_81 ?_
              refine A.ishrN eX3_seatsBefore_83 ?_
              refine A.iconst (v := nI 1) eX3_seatsBefore_84 (by decide) ?_
              refine A.iandN eX3_seatsBefore_85 ?_
              have hand := @Nat.and_le_right (m / 2 ^ i) 1
              refine A.iconst (v := nI 1) eX3_seatsBefore_86 (by decide) ?_
              refine A.icmp_neN eX3_seatsBefore_87 (fun c6 => ?_) (fun c6 => ?_)
              · refine A.inc7N eX3_seatsBefore_98 ?_
                refine A.goto eX3_seatsBefore_101 ?_
                exact A.eqw (by first | simp [wkL, cnt, inb_t c6, hsit] | simp [wkL, cnt, inb_f c6, hsit]) rfl (by rfl) (ih (i + 1) (by omega) (by omega))
              · refine A.il9 eX3_seatsBefore_90 ?_
                refine A.if_eqN eX3_seatsBefore_92 (fun c7 => ?_) (fun c7 => ?_)
                · exact absurd c7 (by decide)
                · refine A.inc6N eX3_seatsBefore_95 ?_
                  refine A.inc7N eX3_seatsBefore_98 ?_
                  refine A.goto eX3_seatsBefore_101 ?_
                  exact A.eqw (by first | simp [wkL, cnt, inb_t c6, hsit] | simp [wkL, cnt, inb_f c6, hsit]) rfl (by rfl) (ih (i + 1) (by omega) (by omega))
        · refine A.il7 eX3_seatsBefore_42 ?_
          refine A.il3 eX3_seatsBefore_44 ?_
          refine A.icmp_geN eX3_seatsBefore_45 (fun c3 => ?_) (fun c3 => ?_)
          · refine A.iconst (v := nI 0) eX3_seatsBefore_52 (by decide) ?_
            refine A.goto eX3_seatsBefore_53 ?_
            have hsit : sits b p f i = false := by
              unfold sits
              first
                | (rw [if_pos c2]; simp; omega)
                | (rw [if_neg c2, if_pos (show b p < b i by omega)]; simp [c5])
                | (rw [if_neg c2, if_neg (show ¬ b p < b i by omega)]; simp [c5])
            refine A.is9 eX3_seatsBefore_78 ?_
            refine A.il2 eX3_seatsBefore_80 ?_
            refine A.il7 eX3_seatsBefore_81 ?_
            refine A.ishrN eX3_seatsBefore_83 ?_
            refine A.iconst (v := nI 1) eX3_seatsBefore_84 (by decide) ?_
            refine A.iandN eX3_seatsBefore_85 ?_
            have hand := @Nat.and_le_right (m / 2 ^ i) 1
            refine A.iconst (v := nI 1) eX3_seatsBefore_86 (by decide) ?_
            refine A.icmp_neN eX3_seatsBefore_87 (fun c6 => ?_) (fun c6 => ?_)
            · refine A.inc7N eX3_seatsBefore_98 ?_
              refine A.goto eX3_seatsBefore_101 ?_
              exact A.eqw (by first | simp [wkL, cnt, inb_t c6, hsit] | simp [wkL, cnt, inb_f c6, hsit]) rfl (by rfl) (ih (i + 1) (by omega) (by omega))
            · refine A.il9 eX3_seatsBefore_90 ?_
              refine A.if_eqN eX3_seatsBefore_92 (fun c7 => ?_) (fun c7 => ?_)
              · refine A.inc7N eX3_seatsBefore_98 ?_
                refine A.goto eX3_seatsBefore_101 ?_
                exact A.eqw (by first | simp [wkL, cnt, inb_t c6, hsit] | simp [wkL, cnt, inb_f c6, hsit]) rfl (by rfl) (ih (i + 1) (by omega) (by omega))
              · exact absurd rfl c7
          · refine A.iconst (v := nI 1) eX3_seatsBefore_48 (by decide) ?_
            refine A.goto eX3_seatsBefore_49 ?_
            have hsit : sits b p f i = true := by
              unfold sits
              first
                | (rw [if_pos c2]; simp; omega)
                | (rw [if_neg c2, if_pos (show b p < b i by omega)]; simp [c5])
                | (rw [if_neg c2, if_neg (show ¬ b p < b i by omega)]; simp [c5])
            refine A.is9 eX3_seatsBefore_78 ?_
            refine A.il2 eX3_seatsBefore_80 ?_
            refine A.il7 eX3_seatsBefore_81 ?_
            refine A.ishrN eX3_seatsBefore_83 ?_
            refine A.iconst (v := nI 1) eX3_seatsBefore_84 (by decide) ?_
            refine A.iandN eX3_seatsBefore_85 ?_
            have hand := @Nat.and_le_right (m / 2 ^ i) 1
            refine A.iconst (v := nI 1) eX3_seatsBefore_86 (by decide) ?_
            refine A.icmp_neN eX3_seatsBefore_87 (fun c6 => ?_) (fun c6 => ?_)
            · refine A.inc7N eX3_seatsBefore_98 ?_
              refine A.goto eX3_seatsBefore_101 ?_
              exact A.eqw (by first | simp [wkL, cnt, inb_t c6, hsit] | simp [wkL, cnt, inb_f c6, hsit]) rfl (by rfl) (ih (i + 1) (by omega) (by omega))
            · refine A.il9 eX3_seatsBefore_90 ?_
              refine A.if_eqN eX3_seatsBefore_92 (fun c7 => ?_) (fun c7 => ?_)
              · exact absurd c7 (by decide)
              · refine A.inc6N eX3_seatsBefore_95 ?_
                refine A.inc7N eX3_seatsBefore_98 ?_
                refine A.goto eX3_seatsBefore_101 ?_
                exact A.eqw (by first | simp [wkL, cnt, inb_t c6, hsit] | simp [wkL, cnt, inb_f c6, hsit]) rfl (by rfl) (ih (i + 1) (by omega) (by omega))
  exact lp (np + 1) 0 (by omega) (by omega)
set_option maxRecDepth 100000 in
set_option maxHeartbeats 4000000 in
theorem sX3_seated {G : GW} {σ : St} {K : Int32 → St → Prop} {v h np : Nat} {a : Nat → Int32} {b : Nat → Nat} {m w : Nat} {f : Int32} (hv : Vv v) (hh : h < 24) (hnp : σ.1 1 5 = nI np) (hn8 : np ≤ 8) (hH : HB σ v h np a b) (hm : m < 256) (hw : w < 2147483648) (hQ : K (if ffst (fun p => inb m p && decide (bef m b p f np = w)) np < np then nI (ffst (fun p => inb m p && decide (bef m b p f np = w)) np) else -1) σ) : Ci G (r0 2 52) mX3_seated [rf G v, .int (nI h), .int (nI m), .int (nI w), .int f] σ K := by
  refine Ci.of [some (rf G v), some (.int (nI h)), some (.int (nI m)), some (.int (nI w)), some (.int f), none] ?_
  refine A.iconst (v := nI 0) eX3_seated_0 (by decide) ?_
  refine A.is5 eX3_seated_1 ?_
  have lp : ∀ (fu i : Nat), np - i < fu → i ≤ np → (∀ k, k < i → (fun p => inb m p && decide (bef m b p f np = w)) k = false) → B G (r0 2 52) mX3_seated 3 [some (rf G v), some (.int (nI h)), some (.int (nI m)), some (.int (nI w)), some (.int f), some (.int (nI i))] [] (σ) (Pi K) := by
    intro fu
    induction fu with
    | zero => intro i  h1 h2; omega
    | succ fu ih =>
      intro i  h1 h2 ha
      refine A.il5 eX3_seated_3 ?_
      refine A.al0 eX3_seated_5 ?_
      refine A.getR eX3_seated_6 fX3_9 (kvo hv) (kvr0 hv) ?_
      refine A.getI eX3_seated_9 fX3_66 ko1 ?_
      refine A.top hnp ?_
      refine A.icmp_geN eX3_seated_12 (fun c1 => ?_) (fun c1 => ?_)
      · refine A.iconst (v := -1) eX3_seated_48 (by decide) ?_
        refine B.iret eX3_seated_49 ?_
        have e : i = np := by omega
        subst e
        exact vl_of hQ (by rw [ffst_none ha, if_neg (by omega)])
      · refine A.il2 eX3_seated_15 ?_
        refine A.il5 eX3_seated_16 ?_
        refine A.ishrN eX3_seated_18 ?_
        refine A.iconst (v := nI 1) eX3_seated_19 (by decide) ?_
        refine A.iandN eX3_seated_20 ?_
        have hand := @Nat.and_le_right (m / 2 ^ i) 1
        refine A.iconst (v := nI 1) eX3_seated_21 (by decide) ?_
        refine A.icmp_neN eX3_seated_22 (fun c2 => ?_) (fun c2 => ?_)
        · refine A.inc5N eX3_seated_42 ?_
          refine A.goto eX3_seated_45 ?_
          refine ih (i + 1) (by omega) (by omega) (fun k hk => ?_)
          rcases Nat.lt_or_ge k i with q | q
          · exact ha k q
          · rw [show k = i by omega]
            first | simp [inb_t c2, c3] | simp [inb_f c2]
        · refine A.al0 eX3_seated_25 ?_
          refine A.il1 eX3_seated_26 ?_
          refine A.il2 eX3_seated_27 ?_
          refine A.il5 eX3_seated_28 ?_
          refine A.il4 eX3_seated_30 ?_
          refine A.cVi4 eX3_seated_32 oX3_seatsBefore kX3_114 (kvo hv) (sX3_seatsBefore hv hh hnp hn8 hH hm (by omega) ?_)
          have b1 : bef m b i f np ≤ np := cnt_le _ _
          refine A.il3 eX3_seated_35 ?_
          refine A.icmp_neN eX3_seated_36 (fun c3 => ?_) (fun c3 => ?_)
          · refine A.inc5N eX3_seated_42 ?_
            refine A.goto eX3_seated_45 ?_
            refine ih (i + 1) (by omega) (by omega) (fun k hk => ?_)
            rcases Nat.lt_or_ge k i with q | q
            · exact ha k q
            · rw [show k = i by omega]
              first | simp [inb_t c2, c3] | simp [inb_f c2]
          · refine A.il5 eX3_seated_39 ?_
            refine B.iret eX3_seated_41 ?_
            have e := ffst_first ha (show i < np by omega) (by simp [inb_t c2, c3])
            exact vl_of hQ (by rw [e, if_pos (by omega)])
  exact lp (np + 1) 0 (by omega) (by omega) (fun k hk => by omega)
