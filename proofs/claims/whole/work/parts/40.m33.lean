/-! ===== the rows: least first ===== -/
def ky (f : Bool) (b : Nat → Nat) (p : Nat) : Nat := (if f then 9 - b p else b p) * 8 + p
def fI (f : Bool) : Int32 := if f then nI 1 else nI 0
theorem ky_inj {f : Bool} {b : Nat → Nat} {p q : Nat} (hp : p < 8) (hq : q < 8) (h : ky f b p = ky f b q) : p = q := by
  unfold ky at h; omega
theorem sits_ky {f : Bool} {b : Nat → Nat} {p q : Nat} (hp : p < 8) (hq : q < 8) (bp : b p ≤ 9) (bq : b q ≤ 9) : sits b p (fI f) q = decide (ky f b q < ky f b p) := by
  unfold sits ky fI
  cases f with
  | true =>
    simp only [if_true]
    by_cases e : b q = b p
    · rw [if_pos e, e]; exact decide_eq_decide.mpr (by omega)
    · rw [if_neg e]
      by_cases l : b p < b q
      · rw [if_pos l, decide_eq_true rfl]; exact (decide_eq_true (by omega)).symm
      · rw [if_neg l, show decide (nI 0 = nI 1) = false by decide]; exact (decide_eq_false (by omega)).symm
  | false =>
    simp only [Bool.false_eq_true, if_false]
    by_cases e : b q = b p
    · rw [if_pos e, e]; exact decide_eq_decide.mpr (by omega)
    · rw [if_neg e]
      by_cases l : b p < b q
      · rw [if_pos l, show decide (nI 1 = nI 0) = false by decide]; exact (decide_eq_false (by omega)).symm
      · rw [if_neg l, decide_eq_true rfl]; exact (decide_eq_true (by omega)).symm
def bk (m : Nat) (f : Bool) (b : Nat → Nat) (np p : Nat) : Nat := cnt (fun q => inb m q && decide (ky f b q < ky f b p)) np
theorem bef_bk {m np p : Nat} {f : Bool} {b : Nat → Nat} (n8 : np ≤ 8) (hb : ∀ q, q < np → b q ≤ 9) (hp : p < np) : bef m b p (fI f) np = bk m f b np p := cnt_congr (fun q hq => by
  show (inb m q && sits b p (fI f) q) = _
  rw [sits_ky (by omega) (by omega) (hb p hp) (hb q hq)])
theorem cnt_le2 {f g : Nat → Bool} : ∀ {n : Nat}, (∀ i, i < n → f i = true → g i = true) → cnt f n ≤ cnt g n := by
  intro n
  induction n with
  | zero => intro _; exact Nat.le_refl _
  | succ n ih =>
    intro h
    have h1 := ih (fun i hi => h i (by omega))
    have h2 := h n (by omega)
    unfold cnt
    by_cases e : f n = true
    · rw [if_pos e, if_pos (h2 e)]; omega
    · rw [if_neg e]; split <;> omega
theorem cnt_lt2 {f g : Nat → Bool} {j : Nat} : ∀ {n : Nat}, (∀ i, i < n → f i = true → g i = true) → j < n → f j = false → g j = true → cnt f n < cnt g n := by
  intro n
  induction n with
  | zero => intro _ h; omega
  | succ n ih =>
    intro h hj hf hg
    have h1 := cnt_le2 (n := n) (fun i hi => h i (by omega))
    have h2 := h n (by omega)
    unfold cnt
    rcases Nat.lt_or_ge j n with q | q
    · have h3 := ih (fun i hi => h i (by omega)) q hf hg
      by_cases e : f n = true
      · rw [if_pos e, if_pos (h2 e)]; omega
      · rw [if_neg e]; split <;> omega
    · have e : j = n := by omega
      subst e
      rw [hf, hg]
      simp only [Bool.false_eq_true, if_false, if_true]
      omega
theorem cnt_ins {f g : Nat → Bool} {j : Nat} : ∀ {n : Nat}, (∀ i, i < n → g i = (f i || decide (i = j))) → j < n → f j = false → cnt g n = cnt f n + 1 := by
  intro n
  induction n with
  | zero => intro _ h; omega
  | succ n ih =>
    intro h hj hf
    have h2 := h n (by omega)
    unfold cnt
    rcases Nat.lt_or_ge j n with q | q
    · rw [ih (fun i hi => h i (by omega)) q hf, h2, show decide (n = j) = false from decide_eq_false (by omega), Bool.or_false]
      omega
    · have e : j = n := by omega
      subst e
      rw [h2, hf, cnt_congr (f := g) (g := f) (fun p hp => by rw [h p (by omega), show decide (p = j) = false from decide_eq_false (by omega), Bool.or_false])]
      simp
/-- the least of those with P, of like ones the first -/
def bmn (P : Nat → Bool) (k : Nat → Nat) : Nat → Option Nat
  | 0 => none
  | n + 1 => if P n && (match bmn P k n with
    | none => true
    | some j => decide (k n < k j)) then some n else bmn P k n
theorem bmn_ok {P : Nat → Bool} {k : Nat → Nat} : ∀ {n : Nat}, (bmn P k n = none → ∀ i, i < n → P i = false) ∧ ∀ j, bmn P k n = some j → j < n ∧ P j = true ∧ ∀ i, i < n → P i = true → k j ≤ k i := by
  intro n
  induction n with
  | zero => exact ⟨fun _ i hi => by omega, fun j h => (by cases h)⟩
  | succ n ih =>
    obtain ⟨a, b⟩ := ih
    have hs : bmn P k (n + 1) = if P n && (match bmn P k n with
      | none => true
      | some j => decide (k n < k j)) then some n else bmn P k n := rfl
    cases e : bmn P k n with
    | none =>
      rw [e] at hs
      simp only [Bool.and_true] at hs
      by_cases p : P n = true
      · rw [if_pos p] at hs
        rw [hs]
        refine ⟨fun h => (by cases h), fun j h => ?_⟩
        cases h
        refine ⟨by omega, p, fun i hi hp => ?_⟩
        rcases Nat.lt_or_ge i n with q | q
        · rw [a e i q] at hp; cases hp
        · rw [show i = n by omega]; exact Nat.le_refl _
      · rw [if_neg p] at hs
        rw [hs]
        refine ⟨fun _ i hi => ?_, fun j h => (by cases h)⟩
        rcases Nat.lt_or_ge i n with q | q
        · exact a e i q
        · rw [show i = n by omega]; simpa using p
    | some j0 =>
      rw [e] at hs
      obtain ⟨c1, c2, c3⟩ := b j0 e
      by_cases p : (P n && decide (k n < k j0)) = true
      · rw [if_pos p] at hs
        rw [hs]
        simp only [Bool.and_eq_true, decide_eq_true_eq] at p
        refine ⟨fun h => (by cases h), fun j h => ?_⟩
        cases h
        refine ⟨by omega, p.1, fun i hi hp => ?_⟩
        rcases Nat.lt_or_ge i n with q | q
        · have := c3 i q hp; omega
        · rw [show i = n by omega]; exact Nat.le_refl _
      · rw [if_neg p] at hs
        rw [hs]
        refine ⟨fun h => (by cases h), fun j h => ?_⟩
        cases h
        refine ⟨by omega, c2, fun i hi hp => ?_⟩
        rcases Nat.lt_or_ge i n with q | q
        · exact c3 i q hp
        · rw [show i = n by omega] at hp ⊢
          simp only [Bool.and_eq_true, decide_eq_true_eq] at p
          have : ¬ k n < k j0 := fun z => p ⟨hp, z⟩
          omega
/-- those before the n-th -/
def sel (m : Nat) (f : Bool) (b : Nat → Nat) (np n p : Nat) : Bool := inb m p && decide (bk m f b np p < n)
section
variable {m np n j : Nat} {f : Bool} {b : Nat → Nat}
theorem sel_rem (hN : n < cnt (inb m) np) (hn : cnt (sel m f b np n) np = n) : ∃ j, bmn (fun p => inb m p && !sel m f b np n p) (ky f b) np = some j := by
  cases e : bmn (fun p => inb m p && !sel m f b np n p) (ky f b) np with
  | some j => exact ⟨j, rfl⟩
  | none =>
    exfalso
    have h := bmn_ok.1 e
    have : cnt (inb m) np ≤ cnt (sel m f b np n) np := cnt_le2 (fun i hi him => by
      have w := h i hi
      simp only [him, Bool.true_and] at w
      cases q : sel m f b np n i with
      | true => rfl
      | false => rw [q] at w; cases w)
    omega
theorem sel_min (n8 : np ≤ 8) (hn : cnt (sel m f b np n) np = n) (hj : bmn (fun p => inb m p && !sel m f b np n p) (ky f b) np = some j) : j < np ∧ inb m j = true ∧ bk m f b np j = n ∧ ∀ p, p < np → inb m p = true → bk m f b np p = n → p = j := by
  obtain ⟨h1, h2, h3⟩ := bmn_ok.2 j hj
  simp only [Bool.and_eq_true, Bool.not_eq_true'] at h2
  obtain ⟨hm, hs⟩ := h2
  have hge : n ≤ bk m f b np j := by
    unfold sel at hs
    rw [hm] at hs
    simp only [Bool.true_and, decide_eq_false_iff_not] at hs
    omega
  have key : ∀ q, q < np → inb m q = true → (ky f b q < ky f b j ↔ bk m f b np q < n) := by
    intro q hq hqm
    constructor
    · intro hlt
      apply Classical.byContradiction
      intro hc
      have := h3 q hq (by
        simp only [hqm, Bool.true_and, Bool.not_eq_true']
        unfold sel
        rw [hqm]
        simpa using hc)
      omega
    · intro hlt
      apply Classical.byContradiction
      intro hc
      have : bk m f b np j ≤ bk m f b np q := cnt_le2 (fun i _ hi => by
        simp only [Bool.and_eq_true, decide_eq_true_eq] at hi ⊢
        exact ⟨hi.1, by omega⟩)
      omega
  have hbj : bk m f b np j = n := by
    refine Eq.trans (cnt_congr (fun q hq => ?_)) hn
    unfold sel
    cases e : inb m q with
    | false => rfl
    | true => simp only [Bool.true_and]; exact decide_eq_decide.mpr (key q hq e)
  refine ⟨h1, hm, hbj, fun p hp hpm hpb => ?_⟩
  apply Classical.byContradiction
  intro hne
  rcases Nat.lt_trichotomy (ky f b p) (ky f b j) with q | q | q
  · have := (key p hp hpm).mp q; omega
  · exact hne (ky_inj (by omega) (by omega) q)
  · have : bk m f b np j < bk m f b np p := cnt_lt2 (j := j) (fun i _ hi => by
      simp only [Bool.and_eq_true, decide_eq_true_eq] at hi ⊢
      exact ⟨hi.1, by omega⟩) h1 (by simp [hm]) (by simp [hm, q])
    omega
theorem sel_next (hj : j < np ∧ inb m j = true ∧ bk m f b np j = n ∧ ∀ p, p < np → inb m p = true → bk m f b np p = n → p = j) : ∀ p, p < np → sel m f b np (n + 1) p = (sel m f b np n p || decide (p = j)) := by
  intro p hp
  unfold sel
  cases e : inb m p with
  | false =>
    simp only [Bool.false_and, Bool.false_or]
    exact (decide_eq_false (fun z => by rw [z, hj.2.1] at e; cases e)).symm
  | true =>
    simp only [Bool.true_and]
    by_cases q : p = j
    · rw [decide_eq_true q, Bool.or_true]
      exact decide_eq_true (by rw [q, hj.2.2.1]; omega)
    · rw [decide_eq_false q, Bool.or_false]
      have : bk m f b np p ≠ n := fun z => q (hj.2.2.2 p hp e z)
      exact decide_eq_decide.mpr (by omega)
theorem sel_cnt (hn : cnt (sel m f b np n) np = n) (hj : j < np ∧ inb m j = true ∧ bk m f b np j = n ∧ ∀ p, p < np → inb m p = true → bk m f b np p = n → p = j) : cnt (sel m f b np (n + 1)) np = n + 1 := by
  rw [cnt_ins (f := sel m f b np n) (j := j) (sel_next hj) hj.1 (by unfold sel; simp [hj.2.2.1]), hn]
theorem sel_bits (hj : j < np ∧ inb m j = true ∧ bk m f b np j = n ∧ ∀ p, p < np → inb m p = true → bk m f b np p = n → p = j) : bits (sel m f b np n) np ||| 2 ^ j = bits (sel m f b np (n + 1)) np := by
  apply Nat.eq_of_testBit_eq
  intro i
  rw [Nat.testBit_or, bits_tb, bits_tb, Nat.testBit_two_pow]
  by_cases e : i < np
  · rw [sel_next hj i e]
    simp [e, eq_comm]
  · simp [e, show ¬ j = i by omega]
theorem sel_full (hm : m < 2 ^ np) (hn : cnt (sel m f b np n) np = n) : bits (sel m f b np n) np = m ↔ cnt (inb m) np ≤ n := by
  constructor
  · intro h
    have : cnt (inb m) np ≤ cnt (sel m f b np n) np := cnt_le2 (fun i hi him => by
      rw [← h, inb_bits] at him
      simpa [hi] using him)
    omega
  · intro h
    apply Nat.eq_of_testBit_eq
    intro i
    rw [bits_tb, ← inb_tb]
    by_cases e : i < np
    · rw [decide_eq_true e, Bool.true_and]
      cases q : inb m i with
      | false => unfold sel; rw [q]; rfl
      | true =>
        cases r : sel m f b np n i with
        | true => rfl
        | false =>
          have : cnt (sel m f b np n) np < cnt (inb m) np := cnt_lt2 (fun k _ hk => by unfold sel at hk; simp only [Bool.and_eq_true] at hk; exact hk.1) e r q
          omega
    · rw [decide_eq_false e, Bool.false_and, inb_tb, Nat.testBit_lt_two_pow (Nat.lt_of_lt_of_le hm (Nat.pow_le_pow_right (by omega) (by omega)))]
theorem bk_lt {p : Nat} (hp : p < np) (hm : inb m p = true) : bk m f b np p < cnt (inb m) np := cnt_lt2 (j := p) (fun k _ hk => by simp only [Bool.and_eq_true] at hk; exact hk.1) hp (by simp) hm
theorem sel_sea (n8 : np ≤ 8) (hb : ∀ q, q < np → b q ≤ 9) (hj : j < np ∧ inb m j = true ∧ bk m f b np j = n ∧ ∀ p, p < np → inb m p = true → bk m f b np p = n → p = j) : sea m b n (fI f) np = j := by
  unfold sea
  refine ffst_first (fun k hk => ?_) hj.1 ?_
  · cases e : inb m k with
    | false => rfl
    | true =>
      simp only [Bool.true_and]
      refine decide_eq_false (fun z => ?_)
      rw [bef_bk n8 hb (by omega)] at z
      have := hj.2.2.2 k (by omega) e z
      omega
  · rw [hj.2.1]
    simp only [Bool.true_and]
    exact decide_eq_true (by rw [bef_bk n8 hb hj.1]; exact hj.2.2.1)
end
theorem ffst_cg {P Q : Nat → Bool} : ∀ {n : Nat}, (∀ p, p < n → P p = Q p) → ffst P n = ffst Q n := by
  intro n
  induction n with
  | zero => intro _; rfl
  | succ n ih => intro h; unfold ffst; rw [ih (fun p hp => h p (by omega)), h n (by omega)]
theorem sea_none {m np w : Nat} {f : Bool} {b : Nat → Nat} (n8 : np ≤ 8) (hb : ∀ q, q < np → b q ≤ 9) (h : cnt (inb m) np ≤ w) : ¬ sea m b w (fI f) np < np := by
  unfold sea
  rw [ffst_none (fun p hp => by
    cases e : inb m p with
    | false => rfl
    | true =>
      simp only [Bool.true_and]
      refine decide_eq_false (fun z => ?_)
      rw [bef_bk n8 hb hp] at z
      have := bk_lt (f := f) (b := b) hp e
      omega)]
  omega
/-- one alone is least and greatest: all are alike -/
theorem sea_same {m np : Nat} {b : Nat → Nat} (n8 : np ≤ 8) (hb : ∀ q, q < np → b q ≤ 9) (h0 : sea m b 0 (fI false) np < np) (he : sea m b 0 (fI false) np = sea m b 0 (fI true) np) : ∀ w, sea m b w (fI true) np = sea m b w (fI false) np := by
  have hz : ∀ f, sea m b 0 (fI f) np < np → inb m (sea m b 0 (fI f) np) = true ∧ bk m f b np (sea m b 0 (fI f) np) = 0 := by
    intro f hf
    have h1 : (fun p => inb m p && decide (bef m b p (fI f) np = 0)) (sea m b 0 (fI f) np) = true := by
      cases e : (fun p => inb m p && decide (bef m b p (fI f) np = 0)) (sea m b 0 (fI f) np) with
      | true => rfl
      | false =>
        exfalso
        have h2 : ∀ n, ffst (fun p => inb m p && decide (bef m b p (fI f) np = 0)) n < n → (fun p => inb m p && decide (bef m b p (fI f) np = 0)) (ffst (fun p => inb m p && decide (bef m b p (fI f) np = 0)) n) = true := by
          intro n
          induction n with
          | zero => intro z; omega
          | succ n ih =>
            intro z
            unfold ffst at z ⊢
            split
            · next q => exact ih q
            · next q =>
              rw [if_neg q] at z
              split
              · next r => exact r
              · next r => rw [if_neg r] at z; omega
        have := h2 np hf
        unfold sea at e
        rw [this] at e
        cases e
    simp only [Bool.and_eq_true, decide_eq_true_eq] at h1
    exact ⟨h1.1, by rw [← bef_bk n8 hb hf]; exact h1.2⟩
  obtain ⟨m1, k1⟩ := hz false h0
  obtain ⟨m2, k2⟩ := hz true (by rw [← he]; exact h0)
  rw [← he] at m2 k2
  have al : ∀ p, p < np → inb m p = true → b p = b (sea m b 0 (fI false) np) := by
    intro p hp hpm
    have q1 := cnt_zero.mp k1 p hp
    have q2 := cnt_zero.mp k2 p hp
    simp only [hpm, Bool.true_and, decide_eq_false_iff_not] at q1 q2
    unfold ky at q1 q2
    simp only [Bool.false_eq_true, if_false, if_true] at q1 q2
    have := hb p hp
    have := hb _ h0
    omega
  intro w
  unfold sea
  refine ffst_cg (fun p hp => ?_)
  cases e : inb m p with
  | false => rfl
  | true =>
    simp only [Bool.true_and]
    rw [bef_bk n8 hb hp, bef_bk n8 hb hp]
    have : bk m true b np p = bk m false b np p := cnt_congr (fun q hq => by
      cases r : inb m q with
      | false => rfl
      | true =>
        simp only [Bool.true_and]
        apply decide_eq_decide.mpr
        unfold ky
        rw [al p hp e, al q hq r]
        simp only [Bool.false_eq_true, if_false, if_true]
        omega)
    rw [this]
