/-! ===== longs, divisors, lots ===== -/
theorem lg0 {x y : Int64} : lg_cmp x y = 0 ↔ x = y := by
  unfold lg_cmp
  split
  · next h => exact ⟨fun e => absurd e (by decide), fun e => absurd h (by rw [e]; exact Int64.lt_irrefl)⟩
  · split
    · next h => simp [h]
    · next h => exact ⟨fun e => absurd e (by decide), fun e => absurd e h⟩
theorem lglt {x y : Int64} : (lg_cmp x y).toInt < 0 ↔ x.toInt < y.toInt := by
  rw [← Int64.lt_iff_toInt_lt]
  unfold lg_cmp
  split
  · next h =>
    constructor
    · intro e; exact absurd e (by decide)
    · intro e; exact absurd (Int64.lt_trans h e) Int64.lt_irrefl
  · next h1 =>
    split
    · next h => rw [h]; exact ⟨fun e => absurd e (by decide), fun e => absurd e Int64.lt_irrefl⟩
    · next h2 =>
      refine ⟨fun _ => ?_, fun _ => by decide⟩
      have h1' : ¬ y < x := h1
      rw [Int64.lt_iff_toInt_lt] at h1' ⊢
      have : x.toInt ≠ y.toInt := fun e => h2 (Int64.toInt_inj.mp e)
      omega
theorem lggt {x y : Int64} : 0 < (lg_cmp x y).toInt ↔ y.toInt < x.toInt := by
  rw [← Int64.lt_iff_toInt_lt]
  unfold lg_cmp
  split
  · next h => exact ⟨fun _ => h, fun _ => by decide⟩
  · next h1 =>
    split
    · exact ⟨fun e => absurd e (by decide), fun e => absurd e h1⟩
    · exact ⟨fun e => absurd e (by decide), fun e => absurd e h1⟩
def eust (s : Nat × Nat) : Nat × Nat := if s.2 = 0 then s else (s.2, s.1 % s.2)
def eus : Nat → Nat × Nat → Nat × Nat
  | 0, s => s
  | n + 1, s => eust (eus n s)
theorem eus_in (n : Nat) (s : Nat × Nat) : eus (n + 1) s = eus n (eust s) := by
  induction n with
  | zero => rfl
  | succ n ih => show eust (eus (n + 1) s) = eust (eus n (eust s)); rw [ih]
theorem eus_fix {s : Nat × Nat} (h : s.2 = 0) : ∀ n, eus n s = s := by
  intro n
  induction n with
  | zero => rfl
  | succ n ih => show eust (eus n s) = s; rw [ih]; unfold eust; rw [if_pos h]
theorem mod_half {y z : Nat} (hz : 0 < z) (h : z ≤ y) : 2 * (y % z) ≤ y := by
  have h1 := Nat.mod_lt y hz
  have h2 := Nat.div_add_mod y z
  have h3 : 1 ≤ y / z := Nat.div_pos h hz
  have h4 : z * 1 ≤ z * (y / z) := Nat.mul_le_mul_left z h3
  omega
theorem eus_zero : ∀ (k : Nat) (s : Nat × Nat), s.2 < 2 ^ k → ∀ n, 2 * k + 1 ≤ n → (eus n s).2 = 0 := by
  intro k
  induction k with
  | zero => intro s h n _; rw [eus_fix (by simpa using h) n]; simpa using h
  | succ k ih =>
    intro s h n hn
    by_cases h0 : s.2 = 0
    · rw [eus_fix h0 n]; exact h0
    obtain ⟨n2, rfl⟩ : ∃ m, n = m + 2 := ⟨n - 2, by omega⟩
    rw [eus_in, eus_in]
    refine ih _ ?_ n2 (by omega)
    have e1 : eust s = (s.2, s.1 % s.2) := by unfold eust; rw [if_neg h0]
    rw [e1]
    unfold eust
    have hm := Nat.mod_lt s.1 (Nat.pos_of_ne_zero h0)
    split
    · next e =>
      have e' : s.1 % s.2 = 0 := e
      show s.1 % s.2 < 2 ^ k
      rw [e']
      exact Nat.two_pow_pos k
    · next e =>
      show s.2 % (s.1 % s.2) < 2 ^ k
      have := mod_half (y := s.2) (z := s.1 % s.2) (Nat.pos_of_ne_zero e) (by omega)
      rw [Nat.pow_succ] at h
      omega
theorem eust_gcd (s : Nat × Nat) : Nat.gcd (eust s).1 (eust s).2 = Nat.gcd s.1 s.2 := by
  unfold eust
  split
  · rfl
  · show Nat.gcd s.2 (s.1 % s.2) = _
    rw [Nat.gcd_comm s.1 s.2, Nat.gcd_rec s.2 s.1, Nat.gcd_comm]
theorem eus_gcd (n : Nat) (s : Nat × Nat) : Nat.gcd (eus n s).1 (eus n s).2 = Nat.gcd s.1 s.2 := by
  induction n with
  | zero => rfl
  | succ n ih => show Nat.gcd (eust (eus n s)).1 (eust (eus n s)).2 = _; rw [eust_gcd, ih]
theorem eust_le {s : Nat × Nat} {M : Nat} (h1 : s.1 < M) (h2 : s.2 < M) : (eust s).1 < M ∧ (eust s).2 < M := by
  unfold eust
  split
  · exact ⟨h1, h2⟩
  · next h => exact ⟨h2, Nat.lt_trans (Nat.mod_lt _ (Nat.pos_of_ne_zero h)) h2⟩
theorem eus_le {s : Nat × Nat} {M : Nat} (h1 : s.1 < M) (h2 : s.2 < M) : ∀ n, (eus n s).1 < M ∧ (eus n s).2 < M := by
  intro n
  induction n with
  | zero => exact ⟨h1, h2⟩
  | succ n ih => exact eust_le ih.1 ih.2
theorem i64_nI {n : Nat} (h : n < 2147483648) : (nI n).toInt64 = lN n := nI_l (by omega)
theorem inb_tb (m i : Nat) : inb m i = m.testBit i := by
  rw [Nat.testBit_eq_decide_div_mod_eq]
  unfold inb
  rw [Nat.and_one_is_mod]
theorem sub_inb {a m : Nat} (h : a &&& m = a) (i : Nat) (hi : inb a i = true) : inb m i = true := by
  rw [inb_tb] at hi ⊢
  rw [← h, Nat.testBit_and] at hi
  simp at hi
  exact hi.2
theorem cnt_mono {f g : Nat → Bool} (h : ∀ i, f i = true → g i = true) : ∀ n, cnt f n ≤ cnt g n := by
  intro n
  induction n with
  | zero => exact Nat.le_refl _
  | succ n ih =>
    unfold cnt
    by_cases e : f n = true
    · rw [if_pos e, if_pos (h n e)]; omega
    · rw [if_neg e]; split <;> omega
theorem pop_mono {a m : Nat} (h : a &&& m = a) : pop a ≤ pop m := cnt_mono (fun i hi => sub_inb h i hi) 8
theorem andnot {a m : Nat} (ha : a < 2147483648) (hm : m < 2147483648) : (nI a &&& (nI m ^^^ (-1)) = 0) ↔ a &&& m = a := by
  have key : (nI a &&& (nI m ^^^ (-1)) = 0) ↔ nI a &&& nI m = nI a := by
    constructor
    · intro h
      rw [← Int32.toBitVec_inj] at h ⊢
      apply BitVec.eq_of_getLsbD_eq
      intro i hi
      have hb := congrArg (fun b => b.getLsbD i) h
      have h1 : ((-1 : Int32).toBitVec).getLsbD i = true := by
        rw [show (-1 : Int32).toBitVec = BitVec.allOnes 32 from by decide]
        rw [BitVec.getLsbD_allOnes]; simp [hi]
      simp [h1] at hb ⊢
      exact fun z => hb z hi
    · intro h
      rw [← Int32.toBitVec_inj] at h ⊢
      apply BitVec.eq_of_getLsbD_eq
      intro i hi
      have hb := congrArg (fun b => b.getLsbD i) h
      have h1 : ((-1 : Int32).toBitVec).getLsbD i = true := by
        rw [show (-1 : Int32).toBitVec = BitVec.allOnes 32 from by decide]
        rw [BitVec.getLsbD_allOnes]; simp [hi]
      simp [h1] at hb ⊢
      exact fun z _ => hb z
  rw [key, nI_and]
  have hl : a &&& m ≤ a := Nat.and_le_left
  exact nI_eq (by omega) (by omega)
/-- the lots -/
def nl (x : Int32) : Int32 := 1103515245 * x + nI 12345
def u16 (x : Int32) : Nat := x.toBitVec.toNat / 65536
theorem u16_lt (x : Int32) : u16 x < 65536 := by
  have := x.toBitVec.isLt
  unfold u16
  omega
theorem ushr16 (x : Int32) : (x.toUInt32 >>> ((nI 16).toUInt32 &&& Int32.toUInt32 31)).toInt32 = nI (u16 x) := by
  have h := pk_ushr x (nI 16) 16 (by decide)
  rw [← Int32.toBitVec_inj]
  apply BitVec.eq_of_toNat_eq
  rw [h]
  have := u16_lt x
  rw [pk_tn (by omega)]
  rfl
theorem max0 {t : Nat} (h : t ≤ 9) : (if zI ((t : Int) - (3 : Nat)) < nI 0 then nI 0 else zI ((t : Int) - (3 : Nat))) = nI (t - 3) := by
  rcases Nat.lt_or_ge t 3 with q | q
  · rw [if_pos (by rw [show nI 0 = zI 0 from rfl]; exact (zI_lt (by omega) (by omega) (by omega) (by omega)).mpr (by omega)), show t - 3 = 0 by omega]
  · rw [if_neg (by rw [show nI 0 = zI 0 from rfl]; intro z; have := (zI_lt (by omega) (by omega) (by omega) (by omega)).mp z; omega), nI_z]
    congr 1
    omega
/-- a set, or none -/
def ov : Option Nat → Int32
  | none => -1
  | some m => nI m
def fwr (n : Nat) : Option Nat → Bool
  | none => true
  | some m => decide (pop n < pop m)
def setA (o : Option Nat) (w : Nat) : Int32 := match o with
  | none => -1
  | some m => if w = 1 then nI m else nI (pop m)
set_option maxRecDepth 100000 in
set_option maxHeartbeats 4000000 in
theorem sX4_isPerson {G : GW} {σ : St} {K : Int32 → St → Prop} {np : Nat} {x : Int32} (hnp : σ.1 1 5 = nI np) (hn8 : np ≤ 8) (hQ : K (bI (0 ≤ x.toInt ∧ x.toInt < np)) σ) : Ci G (r0 1 21) mX4_isPerson [rf G 0, .int x] σ K := by
  refine Ci.of [some (rf G 0), some (.int x)] ?_
  refine A.il1 eX4_isPerson_0 ?_
  refine A.al0 eX4_isPerson_1 ?_
  refine A.getR eX4_isPerson_2 fX4_14 ko0 kr0_0 ?_
  refine A.getI eX4_isPerson_5 fX4_167 ko1 ?_
  refine A.top hnp ?_
  refine A.cSi2 eX4_isPerson_8 oX4_isBelow kX4_67 (sX4_isBelowIN (by omega) ?_)
  refine B.zret eX4_isPerson_11 (bI_01 _) ?_
  exact hQ
set_option maxRecDepth 100000 in
set_option maxHeartbeats 4000000 in
theorem sX4_isPlace {G : GW} {σ : St} {K : Int32 → St → Prop} {nq : Nat} {x : Int32} (hnq : σ.1 5 5 = nI nq) (hq6 : nq ≤ 6) (hQ : K (bI (0 ≤ x.toInt ∧ x.toInt < nq)) σ) : Ci G (r0 1 21) mX4_isPlace [rf G 0, .int x] σ K := by
  refine Ci.of [some (rf G 0), some (.int x)] ?_
  refine A.il1 eX4_isPlace_0 ?_
  refine A.al0 eX4_isPlace_1 ?_
  refine A.getR eX4_isPlace_2 fX4_18 ko0 kr0_1 ?_
  refine A.getI eX4_isPlace_5 fX4_167 ko5 ?_
  refine A.top hnq ?_
  refine A.cSi2 eX4_isPlace_8 oX4_isBelow kX4_67 (sX4_isBelowIN (by omega) ?_)
  refine B.zret eX4_isPlace_11 (bI_01 _) ?_
  exact hQ
set_option maxRecDepth 100000 in
set_option maxHeartbeats 4000000 in
theorem sX4_mayBeGoing {G : GW} {σ : St} {K : Int32 → St → Prop} {x y z : Int32}  (hQ : K (bI ((0 ≤ x.toInt ∧ x.toInt < 24) ∧ (0 ≤ y.toInt ∧ y.toInt < 8) ∧ (0 ≤ z.toInt ∧ z.toInt < 6))) σ) : Ci G (r0 2 41) mX4_mayBeGoing [.int x, .int y, .int z] σ K := by
  refine Ci.of [some (.int x), some (.int y), some (.int z)] ?_
  refine A.il0 eX4_mayBeGoing_0 ?_
  refine A.cSi1 eX4_mayBeGoing_1 oX4_isHour kX4_134 (sX4_isHour  ?_)
  refine A.if_eqB eX4_mayBeGoing_4 (fun c1 => ?_) (fun c1 => ?_)
  · refine A.iconst (v := nI 0) eX4_mayBeGoing_29 (by decide) ?_
    refine B.zret eX4_mayBeGoing_30 (by decide) ?_
    (first | exact vl_of hQ (bI_t (by omega)).symm | exact vl_of hQ (bI_f (by omega)).symm)
  · refine A.il1 eX4_mayBeGoing_7 ?_
    refine A.bipush (v := nI 8) eX4_mayBeGoing_8 (by decide) ?_
    refine A.cSi2 eX4_mayBeGoing_10 oX4_isBelow kX4_67 (sX4_isBelowIN (b := 8) (by omega) ?_)
    refine A.if_eqB eX4_mayBeGoing_13 (fun c2 => ?_) (fun c2 => ?_)
    · refine A.iconst (v := nI 0) eX4_mayBeGoing_29 (by decide) ?_
      refine B.zret eX4_mayBeGoing_30 (by decide) ?_
      (first | exact vl_of hQ (bI_t (by omega)).symm | exact vl_of hQ (bI_f (by omega)).symm)
    · refine A.il2 eX4_mayBeGoing_16 ?_
      refine A.bipush (v := nI 6) eX4_mayBeGoing_17 (by decide) ?_
      refine A.cSi2 eX4_mayBeGoing_19 oX4_isBelow kX4_67 (sX4_isBelowIN (b := 6) (by omega) ?_)
      refine A.if_eqB eX4_mayBeGoing_22 (fun c3 => ?_) (fun c3 => ?_)
      · refine A.iconst (v := nI 0) eX4_mayBeGoing_29 (by decide) ?_
        refine B.zret eX4_mayBeGoing_30 (by decide) ?_
        (first | exact vl_of hQ (bI_t (by omega)).symm | exact vl_of hQ (bI_f (by omega)).symm)
      · refine A.iconst (v := nI 1) eX4_mayBeGoing_25 (by decide) ?_
        refine A.goto eX4_mayBeGoing_26 ?_
        refine B.zret eX4_mayBeGoing_30 (by decide) ?_
        (first | exact vl_of hQ (bI_t (by omega)).symm | exact vl_of hQ (bI_f (by omega)).symm)
set_option maxRecDepth 100000 in
set_option maxHeartbeats 4000000 in
theorem sX4_listingOf {G : GW} {σ : St} {K : Value → St → Prop} {u : Nat} (hu : Vu u) (hQ : K (rf G u) σ) : Ca G (r0 0 0) mX4_listingOf [rf G 0, .int (nI (tt u))] σ K := by
  refine Ca.of [some (rf G 0), some (.int (nI (tt u)))] ?_
  have htt : tt u ≤ 1 := by unfold tt; split <;> omega
  refine A.il1 eX4_listingOf_0 ?_
  refine A.if_neN eX4_listingOf_1 (fun c1 => ?_) (fun c1 => ?_)
  · refine A.il1 eX4_listingOf_9 ?_
    refine A.iconst (v := nI 1) eX4_listingOf_10 (by decide) ?_
    refine A.icmp_neN eX4_listingOf_11 (fun c2 => ?_) (fun c2 => ?_)
    · refine A.null eX4_listingOf_21 ?_
      refine B.aretN eX4_listingOf_22 rfl ?_
      (first
        | (have e : u = 5 := by rcases hu with e | e
                                · rw [e] at c1; exact absurd rfl c1
                                · exact e
           rw [e] at hQ; exact hQ)
        | omega)
    · refine A.al0 eX4_listingOf_14 ?_
      refine A.getR eX4_listingOf_15 fX4_18 ko0 kr0_1 ?_
      refine A.goto eX4_listingOf_18 ?_
      refine B.aretR eX4_listingOf_22 rfl ?_
      (first
        | (have e : u = 5 := by rcases hu with e | e
                                · rw [e] at c1; exact absurd rfl c1
                                · exact e
           rw [e] at hQ; exact hQ)
        | omega)
  · refine A.al0 eX4_listingOf_4 ?_
    refine A.getR eX4_listingOf_5 fX4_14 ko0 kr0_0 ?_
    refine B.aretR eX4_listingOf_8 rfl ?_
    have e : u = 1 := by unfold tt at c1; split at c1 <;> omega
    rw [e] at hQ; exact hQ
set_option maxRecDepth 100000 in
set_option maxHeartbeats 4000000 in
theorem sX4_listingOfN {G : GW} {σ : St} {K : Value → St → Prop} {x : Int32} (h0 : ¬ x = nI 0) (h1 : ¬ x = nI 1) (hQ : K .null σ) : Ca G (r0 0 0) mX4_listingOf [rf G 0, .int x] σ K := by
  refine Ca.of [some (rf G 0), some (.int x)] ?_
  refine A.il1 eX4_listingOf_0 ?_
  refine A.if_ne eX4_listingOf_1 (fun c1 => ?_) (fun c1 => ?_)
  · refine A.il1 eX4_listingOf_9 ?_
    refine A.iconst (v := nI 1) eX4_listingOf_10 (by decide) ?_
    refine A.icmp_ne eX4_listingOf_11 (fun c2 => ?_) (fun c2 => ?_)
    · refine A.null eX4_listingOf_21 ?_
      refine B.aretN eX4_listingOf_22 rfl ?_
      exact hQ
    · exact absurd (by assumption) h1
  · exact absurd (by assumption) h0
set_option maxRecDepth 100000 in
theorem sX4_sheetOf {G : GW} {σ : St} {K : Value → St → Prop} {i s : Nat} (hi : i < 4) (hs : s = 22 + 2 * i) (hQ : K (rf G s) σ) : Ca G (r0 1 21) mX4_sheetOf [rf G 0, .int (nI i)] σ K := by
  refine Ca.of [some (rf G 0), some (.int (nI i))] ?_
  refine A.il1 eX4_sheetOf_0 ?_
  refine A.iconst (v := nI 4) eX4_sheetOf_1 (by decide) ?_
  refine A.cSi2 eX4_sheetOf_2 oX4_isBelow kX4_67 (sX4_isBelowN (by omega) (by omega) ?_)
  refine A.if_eqB eX4_sheetOf_5 (fun c => absurd hi c) (fun _ => ?_)
  refine A.al0 eX4_sheetOf_8 ?_
  refine A.getR eX4_sheetOf_9 fX4_38 ko0 kr0_5 ?_
  refine A.il1 eX4_sheetOf_12 ?_
  refine A.aald (r := s) eX4_sheetOf_13 kq21 (vp_in_nI hi (by omega)) (by rw [nI_clamp (by omega), hs]; rcases (show i = 0 ∨ i = 1 ∨ i = 2 ∨ i = 3 by omega) with rfl | rfl | rfl | rfl <;> rfl) ?_
  refine A.goto eX4_sheetOf_14 ?_
  refine B.aretR eX4_sheetOf_18 rfl ?_
  exact hQ
set_option maxRecDepth 100000 in
set_option maxHeartbeats 4000000 in
theorem sX4_sheetOfN {G : GW} {σ : St} {K : Value → St → Prop} {x : Int32} (h0 : ¬ (0 ≤ x.toInt ∧ x.toInt < 4)) (hQ : K .null σ) : Ca G (r0 1 21) mX4_sheetOf [rf G 0, .int x] σ K := by
  refine Ca.of [some (rf G 0), some (.int x)] ?_
  refine A.il1 eX4_sheetOf_0 ?_
  refine A.iconst (v := nI 4) eX4_sheetOf_1 (by decide) ?_
  refine A.cSi2 eX4_sheetOf_2 oX4_isBelow kX4_67 (sX4_isBelowIN (b := 4) (by omega) ?_)
  refine A.if_eqB eX4_sheetOf_5 (fun c1 => ?_) (fun c1 => ?_)
  · refine A.null eX4_sheetOf_17 ?_
    refine B.aretN eX4_sheetOf_18 rfl ?_
    exact hQ
  · exact absurd (by assumption) h0
set_option maxRecDepth 100000 in
set_option maxHeartbeats 4000000 in
theorem sX4_finding {G : GW} {σ : St} {K : Int32 → St → Prop} {n : Nat}  (hQ : K (-10 - nI n) (ur σ 0 (upd (σ.1 0) 9 (nI n)))) : Ci G (r0 0 0) mX4_finding [rf G 0, .int (nI n)] σ K := by
  refine Ci.of [some (rf G 0), some (.int (nI n))] ?_
  refine A.al0 eX4_finding_0 ?_
  refine A.il1 eX4_finding_1 ?_
  refine A.putI eX4_finding_2 pX4_59 ko0 ?_
  refine A.bipush (v := -10) eX4_finding_5 (by decide) ?_
  refine A.il1 eX4_finding_7 ?_
  refine A.isub eX4_finding_8 ?_
  refine B.iret eX4_finding_9 ?_
  exact hQ
set_option maxRecDepth 100000 in
set_option maxHeartbeats 4000000 in
theorem sX4_findingAt {G : GW} {σ : St} {K : Int32 → St → Prop} {s z : Nat} {x y : Int32} (hs : Vs s) (hz : ¬ σ.1 s 1 = -1 → σ.1 s 2 = nI z) (hz6 : z ≤ 60) (hQ : K (nI (if σ.1 s 1 = -1 then 1 else if ¬ σ.1 s 1 = x then 3 else if 0 ≤ y.toInt ∧ y.toInt < z then 0 else 2)) σ) : Ci G (r0 1 21) mX4_findingAt [rf G s, .int x, .int y] σ K := by
  refine Ci.of [some (rf G s), some (.int x), some (.int y)] ?_
  refine A.al0 eX4_findingAt_0 ?_
  refine A.cVi0 eX4_findingAt_1 oX1_isLost kX4_120 (kso hs) (sX1_isLost hs ?_)
  refine A.if_eqB eX4_findingAt_4 (fun c1 => ?_) (fun c1 => ?_)
  · refine A.al0 eX4_findingAt_9 ?_
    refine A.getI eX4_findingAt_10 fX4_253 (kso hs) ?_
    refine A.il1 eX4_findingAt_13 ?_
    refine A.icmp_eq eX4_findingAt_14 (fun c2 => ?_) (fun c2 => ?_)
    · refine A.il2 eX4_findingAt_19 ?_
      refine A.al0 eX4_findingAt_20 ?_
      refine A.getI eX4_findingAt_21 fX4_126 (kso hs) ?_
      refine A.top (hz c1) ?_
      refine A.cSi2 eX4_findingAt_24 oX4_isBelow kX4_67 (sX4_isBelowIN (by omega) ?_)
      refine A.if_eqB eX4_findingAt_27 (fun c3 => ?_) (fun c3 => ?_)
      · refine A.iconst (v := nI 2) eX4_findingAt_34 (by decide) ?_
        refine B.iret eX4_findingAt_35 ?_
        rw [if_neg c1, if_neg (fun z => z c2)] at hQ
        (first | (rw [if_pos c3] at hQ; exact hQ) | (rw [if_neg c3] at hQ; exact hQ))
      · refine A.iconst (v := nI 0) eX4_findingAt_30 (by decide) ?_
        refine A.goto eX4_findingAt_31 ?_
        refine B.iret eX4_findingAt_35 ?_
        rw [if_neg c1, if_neg (fun z => z c2)] at hQ
        (first | (rw [if_pos c3] at hQ; exact hQ) | (rw [if_neg c3] at hQ; exact hQ))
    · refine A.iconst (v := nI 3) eX4_findingAt_17 (by decide) ?_
      refine B.iret eX4_findingAt_18 ?_
      rw [if_neg c1, if_pos c2] at hQ; exact hQ
  · refine A.iconst (v := nI 1) eX4_findingAt_7 (by decide) ?_
    refine B.iret eX4_findingAt_8 ?_
    rw [if_pos c1] at hQ; exact hQ
set_option maxRecDepth 100000 in
set_option maxHeartbeats 4000000 in
theorem sX4_refusedLong {G : GW} {σ : St} {K : Int64 → St → Prop} {x : Int32}  (hQ : K (-9223372036854775808 - x.toInt64) σ) : Cl G (r0 0 0) mX4_refusedLong [.int x] σ K := by
  refine Cl.of [some (.int x)] ?_
  refine A.ldc2 eX4_refusedLong_0 nX4_351 ?_
  refine A.il0 eX4_refusedLong_3 ?_
  refine A.i2l eX4_refusedLong_4 rfl ?_
  refine A.lsub eX4_refusedLong_5 ?_
  refine B.lret eX4_refusedLong_6 ?_
  exact hQ
set_option maxRecDepth 100000 in
set_option maxHeartbeats 4000000 in
theorem sX4_setAnswer {G : GW} {σ : St} {K : Int32 → St → Prop} {o : Option Nat} {w : Nat} (ho : ∀ m, o = some m → m < 256) (hw : w < 2) (hQ : K (setA o w) σ) : Ci G (r0 1 20) mX4_setAnswer [.int (ov o), .int (nI w)] σ K := by
  refine Ci.of [some (.int (ov o)), some (.int (nI w))] ?_
  have hne : ∀ m, o = some m → ¬ ov o = -1 := fun m e z => by rw [e] at z; exact nI_nm1 (by have := ho m e; omega) z
  refine A.il0 eX4_setAnswer_0 ?_
  refine A.iconst (v := -1) eX4_setAnswer_1 (by decide) ?_
  refine A.icmp_eq eX4_setAnswer_2 (fun yc1 => ?_) (fun yc1 => ?_)
  · cases o with
    | some m => exact absurd yc1 (hne m rfl)
    | none =>
    refine A.il0 eX4_setAnswer_10 ?_
    refine A.goto eX4_setAnswer_11 ?_
    refine B.iret eX4_setAnswer_18 ?_
    exact vl_of hQ (by first | rfl | simp [setA, ov, yc2] | simp [setA])
  · refine A.il1 eX4_setAnswer_5 ?_
    refine A.iconst (v := nI 1) eX4_setAnswer_6 (by decide) ?_
    refine A.icmp_neN eX4_setAnswer_7 (fun yc2 => ?_) (fun yc2 => ?_)
    · obtain ⟨m, em⟩ : ∃ m, o = some m := by cases o with | none => exact absurd rfl yc1 | some m => exact ⟨m, rfl⟩
      subst em
      refine A.il0 eX4_setAnswer_14 ?_
      refine A.cSi1 eX4_setAnswer_15 oJ6_bitCount_0f7a4 kX4_158 (sJ6_bitCount_0f7a4 (ho m rfl) ?_)
      refine B.iret eX4_setAnswer_18 ?_
      exact vl_of hQ (by first | rfl | simp [setA, ov, yc2] | simp [setA])
    · cases o with
      | none => exact absurd rfl yc1
      | some m =>
      refine A.il0 eX4_setAnswer_10 ?_
      refine A.goto eX4_setAnswer_11 ?_
      refine B.iret eX4_setAnswer_18 ?_
      exact vl_of hQ (by first | rfl | simp [setA, ov, yc2] | simp [setA])
set_option maxRecDepth 100000 in
set_option maxHeartbeats 4000000 in
theorem sX4_commonDivisor {G : GW} {σ : St} {K : Int64 → St → Prop} {a d : Nat} (ha : a < 2 ^ 48) (hd : d < 2 ^ 48) (hQ : K (lN (Nat.gcd a d)) σ) : Cl G (r0 0 0) mX4_commonDivisor [.long (lN a), .long (lN d)] σ K := by
  refine Cl.of [some (.long (lN a)), none, some (.long (lN d)), none, none, none, none, none, none, none, none] ?_
  refine A.ll0 eX4_commonDivisor_0 ?_
  refine A.ls4 eX4_commonDivisor_1 ?_
  refine A.ll2 eX4_commonDivisor_3 ?_
  refine A.ls6 eX4_commonDivisor_4 ?_
  refine A.iconst (v := nI 0) eX4_commonDivisor_6 (by decide) ?_
  refine A.is8 eX4_commonDivisor_7 ?_
  have lp : ∀ (fu i : Nat), 100 - i < fu → i ≤ 100 → B G (r0 0 0) mX4_commonDivisor 9 [none, none, none, none, some (.long (lN (eus i (a, d)).1)), none, some (.long (lN (eus i (a, d)).2)), none, some (.int (nI i)), none, none] [] (σ) (Pl K) := by
    intro fu
    induction fu with
    | zero => intro i  h1 h2; omega
    | succ fu ih =>
      intro i  h1 h2 
      have bd := eus_le (s := (a, d)) (M := 2 ^ 48) ha hd i
      refine A.il8 eX4_commonDivisor_9 ?_
      refine A.bipush (v := nI 100) eX4_commonDivisor_11 (by decide) ?_
      refine A.icmp_geN eX4_commonDivisor_13 (fun c1 => ?_) (fun c1 => ?_)
      · refine A.ll4 eX4_commonDivisor_44 ?_
        refine B.lret eX4_commonDivisor_46 ?_
        have hz : (eus i (a, d)).2 = 0 := by
          first
            | exact (pk_lEQ (b := 0) (by omega) (by omega)).mp (lg0.mp c2)
            | exact eus_zero 48 (a, d) hd i (by omega)
        refine vl_of hQ ?_
        have := eus_gcd i (a, d)
        rw [hz, Nat.gcd_zero_right] at this
        rw [this]
      · refine A.ll6 eX4_commonDivisor_16 ?_
        refine A.lconst (v := 0) eX4_commonDivisor_18 (by decide) ?_
        refine A.lcmp eX4_commonDivisor_19 ?_
        refine A.if_eq eX4_commonDivisor_20 (fun c2 => ?_) (fun c2 => ?_)
        · refine A.ll4 eX4_commonDivisor_44 ?_
          refine B.lret eX4_commonDivisor_46 ?_
          have hz : (eus i (a, d)).2 = 0 := by
            first
              | exact (pk_lEQ (b := 0) (by omega) (by omega)).mp (lg0.mp c2)
              | exact eus_zero 48 (a, d) hd i (by omega)
          refine vl_of hQ ?_
          have := eus_gcd i (a, d)
          rw [hz, Nat.gcd_zero_right] at this
          rw [this]
        · have hy : ¬ (eus i (a, d)).2 = 0 := fun z => c2 (lg0.mpr (by rw [z]; rfl))
          refine A.ll4 eX4_commonDivisor_23 ?_
          refine A.ll6 eX4_commonDivisor_25 ?_
          refine A.lrem eX4_commonDivisor_27 (fun z => hy ((pk_lEQ (b := 0) (by omega) (by omega)).mp z)) ?_
          refine A.ls9 eX4_commonDivisor_28 ?_
          refine A.ll6 eX4_commonDivisor_30 ?_
          refine A.ls4 eX4_commonDivisor_32 ?_
          refine A.ll9 eX4_commonDivisor_34 ?_
          refine A.ls6 eX4_commonDivisor_36 ?_
          refine A.inc8N eX4_commonDivisor_38 ?_
          refine A.goto eX4_commonDivisor_41 ?_
          have e : eus (i + 1) (a, d) = ((eus i (a, d)).2, (eus i (a, d)).1 % (eus i (a, d)).2) := by show eust _ = _; unfold eust; rw [if_neg hy]
          exact A.eqw (by rw [e, pk_lRem (by omega) (Nat.pos_of_ne_zero hy) (by omega)]; simp [wkL]) rfl rfl (ih (i + 1) (by omega) (by omega))
  exact A.eqw (by simp [wkL, eus]) rfl rfl (lp 101 0 (by omega) (by omega))
set_option maxRecDepth 100000 in
set_option maxHeartbeats 4000000 in
theorem sX4_partOfFraction {G : GW} {σ : St} {K : Int64 → St → Prop} {a d w : Nat} (ha : a < 2 ^ 48) (hd : d < 2 ^ 48) (h0 : 0 < d) (hw : w < 2) (hQ : K (lN ((if w = 0 then a else d) / Nat.gcd a d)) σ) : Cl G (r0 1 30) mX4_partOfFraction [.long (lN a), .long (lN d), .int (nI w)] σ K := by
  refine Cl.of [some (.long (lN a)), none, some (.long (lN d)), none, some (.int (nI w)), none, none] ?_
  have hg : 0 < Nat.gcd a d := Nat.gcd_pos_of_pos_right a h0
  have hgl : Nat.gcd a d ≤ d := Nat.gcd_le_right a h0
  refine A.ll0 eX4_partOfFraction_0 ?_
  refine A.ll2 eX4_partOfFraction_1 ?_
  refine A.cSl2 eX4_partOfFraction_2 oX4_commonDivisor kX4_353 (sX4_commonDivisor ha hd ?_)
  refine A.ls5 eX4_partOfFraction_5 ?_
  refine A.ll5 eX4_partOfFraction_7 ?_
  refine A.lconst (v := 0) eX4_partOfFraction_9 (by decide) ?_
  refine A.lcmp eX4_partOfFraction_10 ?_
  refine A.if_ne eX4_partOfFraction_11 (fun c1 => ?_) (fun c1 => ?_)
  · refine A.il4 eX4_partOfFraction_16 ?_
    refine A.if_neN eX4_partOfFraction_18 (fun c2 => ?_) (fun c2 => ?_)
    · refine A.ll2 eX4_partOfFraction_25 ?_
      refine A.ll5 eX4_partOfFraction_26 ?_
      refine A.ldiv eX4_partOfFraction_28 (fun z => (Nat.pos_iff_ne_zero.mp hg) ((pk_lEQ (b := 0) (by omega) (by omega)).mp z)) ?_
      refine B.lret eX4_partOfFraction_29 ?_
      refine vl_of hQ ?_
      (first | rw [if_pos c2] | rw [if_neg c2])
      exact pk_lDiv (by omega) hg (by omega)
    · refine A.ll0 eX4_partOfFraction_21 ?_
      refine A.goto eX4_partOfFraction_22 ?_
      refine A.ll5 eX4_partOfFraction_26 ?_
      refine A.ldiv eX4_partOfFraction_28 (fun z => (Nat.pos_iff_ne_zero.mp hg) ((pk_lEQ (b := 0) (by omega) (by omega)).mp z)) ?_
      refine B.lret eX4_partOfFraction_29 ?_
      refine vl_of hQ ?_
      (first | rw [if_pos c2] | rw [if_neg c2])
      exact pk_lDiv (by omega) hg (by omega)
  · exact absurd ((pk_lEQ (b := 0) (by omega) (by omega)).mp (lg0.mp c1)) (Nat.pos_iff_ne_zero.mp hg)
set_option maxRecDepth 100000 in
set_option maxHeartbeats 4000000 in
theorem sX4_powerOf {G : GW} {σ : St} {K : Int64 → St → Prop} {b n : Nat} (hb : b < 2147483648) (hn : n < 2147483648) (hQ : K (lN (b ^ n)) σ) : Cl G (r0 0 0) mX4_powerOf [.int (nI b), .int (nI n)] σ K := by
  refine Cl.of [some (.int (nI b)), some (.int (nI n)), none, none, none] ?_
  refine A.lconst (v := 1) eX4_powerOf_0 (by decide) ?_
  refine A.ls2 eX4_powerOf_1 ?_
  refine A.iconst (v := nI 0) eX4_powerOf_2 (by decide) ?_
  refine A.is4 eX4_powerOf_3 ?_
  have lp : ∀ (fu i : Nat), n - i < fu → i ≤ n → B G (r0 0 0) mX4_powerOf 5 [some (.int (nI b)), some (.int (nI n)), some (.long (lN (b ^ i))), none, some (.int (nI i))] [] (σ) (Pl K) := by
    intro fu
    induction fu with
    | zero => intro i  h1 h2; omega
    | succ fu ih =>
      intro i  h1 h2 
      refine A.il4 eX4_powerOf_5 ?_
      refine A.il1 eX4_powerOf_7 ?_
      refine A.icmp_geN eX4_powerOf_8 (fun c1 => ?_) (fun c1 => ?_)
      · refine A.ll2 eX4_powerOf_22 ?_
        refine B.lret eX4_powerOf_23 ?_
        have e : i = n := by omega
        subst e
        exact hQ
      · refine A.ll2 eX4_powerOf_11 ?_
        refine A.il0 eX4_powerOf_12 ?_
        refine A.i2l eX4_powerOf_13 rfl ?_
        refine A.lmul eX4_powerOf_14 ?_
        refine A.ls2 eX4_powerOf_15 ?_
        refine A.inc4N eX4_powerOf_16 ?_
        refine A.goto eX4_powerOf_19 ?_
        exact A.eq (by rw [i64_nI hb, lN_mul, Nat.pow_succ]) rfl (by rfl) (ih (i + 1) (by omega) (by omega))
  exact lp (n + 1) 0 (by omega) (by omega)
set_option maxRecDepth 100000 in
set_option maxHeartbeats 4000000 in
theorem sX4_isFewer {G : GW} {σ : St} {K : Int32 → St → Prop} {m : Nat} {o : Option Nat} (hm : m < 256) (ho : ∀ n, o = some n → n < 256) (hQ : K (bI (fwr m o = true)) σ) : Ci G (r0 1 20) mX4_isFewer [.int (nI m), .int (ov o)] σ K := by
  refine Ci.of [some (.int (nI m)), some (.int (ov o))] ?_
  refine A.il1 eX4_isFewer_0 ?_
  refine A.iconst (v := -1) eX4_isFewer_1 (by decide) ?_
  refine A.icmp_eq eX4_isFewer_2 (fun c1 => ?_) (fun c1 => ?_)
  · refine A.iconst (v := nI 1) eX4_isFewer_16 (by decide) ?_
    refine A.goto eX4_isFewer_17 ?_
    refine B.zret eX4_isFewer_21 (by decide) ?_
    (first
      | (cases o with
         | none => exact vl_of hQ (bI_t rfl).symm
         | some n => exact absurd c1 (nI_nm1 (by have := ho n rfl; omega)))
      | exact vl_of hQ (bI_t (by simp [fwr]; omega)).symm
      | exact vl_of hQ (bI_f (by simp [fwr]; omega)).symm)
  · obtain ⟨n, en⟩ : ∃ n, o = some n := by cases o with | none => exact absurd rfl c1 | some n => exact ⟨n, rfl⟩
    subst en
    have p1 := pop_le m
    have p2 := pop_le n
    refine A.il0 eX4_isFewer_5 ?_
    refine A.cSi1 eX4_isFewer_6 oJ6_bitCount_0f7a4 kX4_158 (sJ6_bitCount_0f7a4 hm ?_)
    refine A.il1 eX4_isFewer_9 ?_
    refine A.cSi1 eX4_isFewer_10 oJ6_bitCount_0f7a4 kX4_158 (sJ6_bitCount_0f7a4 (ho n rfl) ?_)
    refine A.icmp_geN eX4_isFewer_13 (fun c2 => ?_) (fun c2 => ?_)
    · refine A.iconst (v := nI 0) eX4_isFewer_20 (by decide) ?_
      refine B.zret eX4_isFewer_21 (by decide) ?_
      (first
        | (cases o with
           | none => exact vl_of hQ (bI_t rfl).symm
           | some n => exact absurd c1 (nI_nm1 (by have := ho n rfl; omega)))
        | exact vl_of hQ (bI_t (by simp [fwr]; omega)).symm
        | exact vl_of hQ (bI_f (by simp [fwr]; omega)).symm)
    · refine A.iconst (v := nI 1) eX4_isFewer_16 (by decide) ?_
      refine A.goto eX4_isFewer_17 ?_
      refine B.zret eX4_isFewer_21 (by decide) ?_
      (first
        | (cases o with
           | none => exact vl_of hQ (bI_t rfl).symm
           | some n => exact absurd c1 (nI_nm1 (by have := ho n rfl; omega)))
        | exact vl_of hQ (bI_t (by simp [fwr]; omega)).symm
        | exact vl_of hQ (bI_f (by simp [fwr]; omega)).symm)
set_option maxRecDepth 100000 in
set_option maxHeartbeats 4000000 in
theorem sX4_changingPersons {G : GW} {σ : St} {K : Int32 → St → Prop} {np : Nat} {kd : Nat → Nat} (hnp : σ.1 1 5 = nI np) (hn8 : np ≤ 8) (hk : ∀ p, p < np → σ.1 4 p = nI (kd p) ∧ kd p ≤ 2) (hQ : K (nI (bits (fun p => decide (¬ kd p = 2)) np)) σ) : Ci G (r0 2 42) mX4_changingPersons [rf G 0] σ K := by
  refine Ci.of [some (rf G 0), none, none] ?_
  refine A.iconst (v := nI 0) eX4_changingPersons_0 (by decide) ?_
  refine A.is1 eX4_changingPersons_1 ?_
  refine A.iconst (v := nI 0) eX4_changingPersons_2 (by decide) ?_
  refine A.is2 eX4_changingPersons_3 ?_
  have lp : ∀ (fu i : Nat), np - i < fu → i ≤ np → B G (r0 2 42) mX4_changingPersons 4 [some (rf G 0), some (.int (nI (bits (fun p => decide (¬ kd p = 2)) i))), some (.int (nI i))] [] (σ) (Pi K) := by
    intro fu
    induction fu with
    | zero => intro i  h1 h2; omega
    | succ fu ih =>
      intro i  h1 h2 
      refine A.il2 eX4_changingPersons_4 ?_
      refine A.al0 eX4_changingPersons_5 ?_
      refine A.getR eX4_changingPersons_6 fX4_14 ko0 kr0_0 ?_
      refine A.getI eX4_changingPersons_9 fX4_167 ko1 ?_
      refine A.top hnp ?_
      refine A.icmp_geN eX4_changingPersons_12 (fun c1 => ?_) (fun c1 => ?_)
      · refine A.il1 eX4_changingPersons_39 ?_
        refine B.iret eX4_changingPersons_40 ?_
        have e : i = np := by omega
        subst e
        exact hQ
      · refine A.al0 eX4_changingPersons_15 ?_
        refine A.getR eX4_changingPersons_16 fX4_14 ko0 kr0_0 ?_
        refine A.il2 eX4_changingPersons_19 ?_
        refine A.cVi1 eX4_changingPersons_20 oX0_second kX4_95 ko1 (sX0_second (u := 1) (Or.inl rfl) (show i < 8 by omega) ?_)
        refine A.top (show σ.1 (1 + 3) i = nI (kd i) from (hk i (by omega)).1) ?_
        have hk2 := (hk i (by omega)).2
        refine A.iconst (v := nI 2) eX4_changingPersons_23 (by decide) ?_
        refine A.icmp_eqN eX4_changingPersons_24 (fun c2 => ?_) (fun c2 => ?_)
        · refine A.inc2N eX4_changingPersons_33 ?_
          refine A.goto eX4_changingPersons_36 ?_
          exact A.eq (by simp [bits, c2]) rfl (by rfl) (ih (i + 1) (by omega) (by omega))
        · refine A.il1 eX4_changingPersons_27 ?_
          refine A.iconst (v := nI 1) eX4_changingPersons_28 (by decide) ?_
          refine A.il2 eX4_changingPersons_29 ?_
          refine A.ishl1 eX4_changingPersons_30 ?_
          refine A.iorN eX4_changingPersons_31 ?_
          refine A.is1 eX4_changingPersons_32 ?_
          refine A.inc2N eX4_changingPersons_33 ?_
          refine A.goto eX4_changingPersons_36 ?_
          exact A.eq (by simp [bits, c2]) rfl (by rfl) (ih (i + 1) (by omega) (by omega))
  exact lp (np + 1) 0 (by omega) (by omega)
set_option maxRecDepth 100000 in
set_option maxHeartbeats 4000000 in
theorem sX4_weightOf {G : GW} {σ : St} {K : Int64 → St → Prop} {c a m : Nat} (hc : c ≤ 16) (ha : a < 256) (hm : m < 256) (hQ : K (if a &&& m = a then lN (c ^ pop a * (16 - c) ^ (pop m - pop a)) else 0) σ) : Cl G (r0 1 24) mX4_weightOf [.int (nI c), .int (nI a), .int (nI m)] σ K := by
  refine Cl.of [some (.int (nI c)), some (.int (nI a)), some (.int (nI m)), none] ?_
  refine A.il1 eX4_weightOf_0 ?_
  refine A.il2 eX4_weightOf_1 ?_
  refine A.iconst (v := -1) eX4_weightOf_2 (by decide) ?_
  refine A.ixor eX4_weightOf_3 ?_
  refine A.iand eX4_weightOf_4 ?_
  refine A.if_eq eX4_weightOf_5 (fun c1 => ?_) (fun c1 => ?_)
  · have hs : a &&& m = a := (andnot (by omega) (by omega)).mp c1
    have p1 := pop_mono hs
    have p2 := pop_le m
    refine A.il1 eX4_weightOf_10 ?_
    refine A.cSi1 eX4_weightOf_11 oJ6_bitCount_0f7a4 kX4_158 (sJ6_bitCount_0f7a4 ha ?_)
    refine A.is3 eX4_weightOf_14 ?_
    refine A.il0 eX4_weightOf_15 ?_
    refine A.il3 eX4_weightOf_16 ?_
    refine A.cSl2 eX4_weightOf_17 oX4_powerOf kX4_228 (sX4_powerOf (by omega) (by omega) ?_)
    refine A.bipush (v := nI 16) eX4_weightOf_20 (by decide) ?_
    refine A.il0 eX4_weightOf_22 ?_
    refine A.isubN eX4_weightOf_23 ?_
    refine A.il2 eX4_weightOf_24 ?_
    refine A.cSi1 eX4_weightOf_25 oJ6_bitCount_0f7a4 kX4_158 (sJ6_bitCount_0f7a4 hm ?_)
    refine A.il3 eX4_weightOf_28 ?_
    refine A.isubN eX4_weightOf_29 ?_
    refine A.cSl2 eX4_weightOf_30 oX4_powerOf kX4_228 (sX4_powerOf (by omega) (by omega) ?_)
    refine A.lmul eX4_weightOf_33 ?_
    refine B.lret eX4_weightOf_34 ?_
    rw [if_pos hs] at hQ
    exact vl_of hQ (lN_mul _ _)
  · refine A.lconst (v := 0) eX4_weightOf_8 (by decide) ?_
    refine B.lret eX4_weightOf_9 ?_
    rw [if_neg (fun z => c1 ((andnot (by omega) (by omega)).mpr z))] at hQ; exact hQ
set_option maxRecDepth 100000 in
set_option maxHeartbeats 4000000 in
theorem sX4_tellBadNews {G : GW} {σ : St} {K : St → Prop} {np m : Nat} {b0 : Nat → Nat} (hnp : σ.1 1 5 = nI np) (hn8 : np ≤ 8) (hb : ∀ p, p < np → σ.1 3 p = nI (b0 p) ∧ b0 p ≤ 9) (hm : m < 256) (hQ : ∀ τ : St, Fi 38 38 σ τ → (∀ p, p < np → τ.1 38 p = nI (if inb m p then b0 p - 3 else b0 p)) → K τ) : Cv G (r0 2 43) mX4_tellBadNews [rf G 0, .int (nI m)] σ K := by
  refine Cv.of [some (rf G 0), some (.int (nI m)), none, none, none] ?_
  refine A.iconst (v := nI 0) eX4_tellBadNews_0 (by decide) ?_
  refine A.is2 eX4_tellBadNews_1 ?_
  have lp : ∀ (fu i : Nat) (τ : St), np - i < fu → i ≤ np → Fi 38 38 σ τ → (∀ p, p < i → τ.1 38 p = nI (if inb m p then b0 p - 3 else b0 p)) → B G (r0 2 43) mX4_tellBadNews 2 [some (rf G 0), some (.int (nI m)), some (.int (nI i)), none, none] [] (τ) (Pv K) := by
    intro fu
    induction fu with
    | zero => intro i τ h1 h2; omega
    | succ fu ih =>
      intro i τ h1 h2 e1 e2
      refine A.il2 eX4_tellBadNews_2 ?_
      refine A.al0 eX4_tellBadNews_3 ?_
      refine A.getR eX4_tellBadNews_4 fX4_14 ko0 kr0_0 ?_
      refine A.getI eX4_tellBadNews_7 fX4_167 ko1 ?_
      refine A.top (show τ.1 1 5 = nI np by rw [e1.1 1 (by omega)]; exact hnp) ?_
      refine A.icmp_geN eX4_tellBadNews_10 (fun c1 => ?_) (fun c1 => ?_)
      · refine B.vret eX4_tellBadNews_68 ?_
        have e : i = np := by omega
        subst e
        exact hQ τ e1 e2
      · refine A.al0 eX4_tellBadNews_13 ?_
        refine A.getR eX4_tellBadNews_14 fX4_14 ko0 kr0_0 ?_
        refine A.il2 eX4_tellBadNews_17 ?_
        refine A.cVi1 eX4_tellBadNews_18 oX0_first kX4_91 ko1 (sX0_first (u := 1) (Or.inl rfl) (show i < 8 by omega) ?_)
        refine A.top (show τ.1 (1 + 2) i = nI (b0 i) from by rw [e1.1 (1 + 2) (by omega)]; exact (hb i (by omega)).1) ?_
        have b9 := (hb i (by omega)).2
        refine A.is3 eX4_tellBadNews_21 ?_
        refine A.il1 eX4_tellBadNews_22 ?_
        refine A.il2 eX4_tellBadNews_23 ?_
        refine A.ishrN eX4_tellBadNews_24 ?_
        refine A.iconst (v := nI 1) eX4_tellBadNews_25 (by decide) ?_
        refine A.iandN eX4_tellBadNews_26 ?_
        have hand := @Nat.and_le_right (m / 2 ^ i) 1
        refine A.iconst (v := nI 1) eX4_tellBadNews_27 (by decide) ?_
        refine A.icmp_neN eX4_tellBadNews_28 (fun c2 => ?_) (fun c2 => ?_)
        · refine A.iconst (v := nI 0) eX4_tellBadNews_35 (by decide) ?_
          refine A.is4 eX4_tellBadNews_36 ?_
          refine A.al0 eX4_tellBadNews_38 ?_
          refine A.getR eX4_tellBadNews_39 fX4_52 ko0 kr0_7 ?_
          refine A.il2 eX4_tellBadNews_42 ?_
          refine A.il4 eX4_tellBadNews_43 ?_
          refine A.if_eqN eX4_tellBadNews_45 (fun c3 => ?_) (fun c3 => ?_)
          · refine A.il3 eX4_tellBadNews_58 ?_
            refine A.cVv2 eX4_tellBadNews_59 oX3_begin kX4_204 ko36 (sX3_begin (v := 36) (Or.inr rfl) (by omega) ?_)
            refine A.inc2N eX4_tellBadNews_62 ?_
            refine A.goto eX4_tellBadNews_65 ?_
            refine A.eqw (by simp [wkL]) rfl rfl (ih (i + 1) _ (by omega) (by omega) (e1.ur (by omega) (by omega)) (fun p hp => ?_))
            rw [show (38 : Nat) = 36 + 2 from rfl, ur_s]
            by_cases e : p = i
            · rw [e, upd_s]
              first | rw [inb_t c2, if_pos rfl] | (rw [inb_f c2]; rfl)
            · rw [upd_n e]; exact e2 p (by omega)
          · exact absurd rfl c3
        · refine A.iconst (v := nI 1) eX4_tellBadNews_31 (by decide) ?_
          refine A.goto eX4_tellBadNews_32 ?_
          refine A.is4 eX4_tellBadNews_36 ?_
          refine A.al0 eX4_tellBadNews_38 ?_
          refine A.getR eX4_tellBadNews_39 fX4_52 ko0 kr0_7 ?_
          refine A.il2 eX4_tellBadNews_42 ?_
          refine A.il4 eX4_tellBadNews_43 ?_
          refine A.if_eqN eX4_tellBadNews_45 (fun c3 => ?_) (fun c3 => ?_)
          · exact absurd c3 (by decide)
          · refine A.il3 eX4_tellBadNews_48 ?_
            refine A.iconst (v := nI 3) eX4_tellBadNews_49 (by decide) ?_
            refine A.topZ ?_
            refine A.topZ2 ?_
            refine A.isubZ eX4_tellBadNews_50 ?_
            refine A.iconst (v := nI 0) eX4_tellBadNews_51 (by decide) ?_
            refine A.mmax eX4_tellBadNews_52 kX4_368 ?_
            refine A.top (max0 b9) ?_
            refine A.goto eX4_tellBadNews_55 ?_
            refine A.cVv2 eX4_tellBadNews_59 oX3_begin kX4_204 ko36 (sX3_begin (v := 36) (Or.inr rfl) (by omega) ?_)
            refine A.inc2N eX4_tellBadNews_62 ?_
            refine A.goto eX4_tellBadNews_65 ?_
            refine A.eqw (by simp [wkL]) rfl rfl (ih (i + 1) _ (by omega) (by omega) (e1.ur (by omega) (by omega)) (fun p hp => ?_))
            rw [show (38 : Nat) = 36 + 2 from rfl, ur_s]
            by_cases e : p = i
            · rw [e, upd_s]
              first | rw [inb_t c2, if_pos rfl] | (rw [inb_f c2]; rfl)
            · rw [upd_n e]; exact e2 p (by omega)
  exact A.eqw (by simp [wkL]) rfl rfl (lp (np + 1) 0 σ (by omega) (by omega) (Fi.rf _ _ _) (fun p hp => by omega))
set_option maxRecDepth 100000 in
set_option maxHeartbeats 4000000 in
theorem sX4_nextLot {G : GW} {σ : St} {K : Int32 → St → Prop} {x : Int32}  (hQ : K (nl x) σ) : Ci G (r0 0 0) mX4_nextLot [.int x] σ K := by
  refine Ci.of [some (.int x)] ?_
  refine A.ldcw eX4_nextLot_0 nX4_374 ?_
  refine A.il0 eX4_nextLot_3 ?_
  refine A.imul eX4_nextLot_4 ?_
  refine A.sipush (v := nI 12345) eX4_nextLot_5 (by decide) ?_
  refine A.iadd eX4_nextLot_8 ?_
  refine B.iret eX4_nextLot_9 ?_
  exact hQ
set_option maxRecDepth 100000 in
set_option maxHeartbeats 4000000 in
theorem sX4_mix {G : GW} {σ : St} {K : Int64 → St → Prop} {x y : Int64}  (hQ : K (31 * x + y) σ) : Cl G (r0 0 0) mX4_mix [.long x, .long y] σ K := by
  refine Cl.of [some (.long x), none, some (.long y), none] ?_
  refine A.ldc2 eX4_mix_0 nX4_349 ?_
  refine A.ll0 eX4_mix_3 ?_
  refine A.lmul eX4_mix_4 ?_
  refine A.ll2 eX4_mix_5 ?_
  refine A.ladd eX4_mix_6 ?_
  refine B.lret eX4_mix_7 ?_
  exact hQ
