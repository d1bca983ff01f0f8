/-! ===== the news: what all the lots weigh ===== -/
def sumf (F : Nat → Nat) : Nat → Nat
  | 0 => 0
  | n + 1 => sumf F n + F n
theorem sumf_cg {F H : Nat → Nat} : ∀ {n : Nat}, (∀ i, i < n → F i = H i) → sumf F n = sumf H n := by
  intro n
  induction n with
  | zero => intro _; rfl
  | succ n ih => intro h; unfold sumf; rw [ih (fun i hi => h i (by omega)), h n (by omega)]
theorem sumf_add (F : Nat → Nat) (a : Nat) : ∀ b, sumf F (a + b) = sumf F a + sumf (fun i => F (a + i)) b := by
  intro b
  induction b with
  | zero => rfl
  | succ b ih =>
    show sumf F (a + b) + F (a + b) = _
    rw [ih]
    show _ = sumf F a + (sumf (fun i => F (a + i)) b + F (a + b))
    omega
theorem sumf_mul (F : Nat → Nat) (k : Nat) : ∀ n, sumf (fun i => F i * k) n = sumf F n * k := by
  intro n
  induction n with
  | zero => simp [sumf]
  | succ n ih => unfold sumf; rw [ih, Nat.add_mul]
def ncf (x : XS) (p : Nat) : Bool := decide (¬ xk x p = 2)
def wfa (x : XS) (c p : Nat) (b : Bool) : Nat := if xk x p = 2 then (if b then 0 else 1) else if b then c else 16 - c
def wpf (x : XS) (c m : Nat) : Nat → Nat
  | 0 => 1
  | n + 1 => wpf x c m n * wfa x c n (inb m n)
theorem wpf_cg {x : XS} {c m m' : Nat} : ∀ {n : Nat}, (∀ p, p < n → inb m p = inb m' p) → wpf x c m n = wpf x c m' n := by
  intro n
  induction n with
  | zero => intro _; rfl
  | succ n ih => intro h; unfold wpf; rw [ih (fun p hp => h p (by omega)), h n (by omega)]
theorem wpf_tot {x : XS} {c : Nat} (hc : c ≤ 16) : ∀ n, sumf (fun m => wpf x c m n) (2 ^ n) = 16 ^ cnt (ncf x) n := by
  intro n
  induction n with
  | zero => rfl
  | succ n ih =>
    have e1 : sumf (fun m => wpf x c m (n + 1)) (2 ^ n) = sumf (fun m => wpf x c m n * wfa x c n false) (2 ^ n) := sumf_cg (fun i hi => by
      show wpf x c i n * wfa x c n (inb i n) = _
      rw [inb_tb, Nat.testBit_lt_two_pow hi])
    have e2 : sumf (fun m => wpf x c (2 ^ n + m) (n + 1)) (2 ^ n) = sumf (fun m => wpf x c m n * wfa x c n true) (2 ^ n) := sumf_cg (fun i hi => by
      show wpf x c (2 ^ n + i) n * wfa x c n (inb (2 ^ n + i) n) = _
      rw [inb_tb, Nat.testBit_two_pow_add_eq, Nat.testBit_lt_two_pow hi, wpf_cg (m' := i) (fun p hp => by rw [inb_tb, inb_tb, Nat.testBit_two_pow_add_gt hp])]
      rfl)
    rw [show 2 ^ (n + 1) = 2 ^ n + 2 ^ n by rw [Nat.pow_succ]; omega, sumf_add, e1, e2, sumf_mul, sumf_mul, ih, ← Nat.mul_add]
    show _ = 16 ^ (cnt (ncf x) n + (if ncf x n then 1 else 0))
    unfold wfa
    by_cases k : xk x n = 2
    · have : ncf x n = false := by simp [ncf, k]
      simp [k, this]
    · have : ncf x n = true := by simp [ncf, k]
      simp only [if_neg k, this, if_true, Bool.false_eq_true, if_false]
      rw [show 16 - c + c = 16 by omega, Nat.pow_succ]
theorem cnt_np {f : Nat → Bool} {n : Nat} (hn : n ≤ 8) (h : ∀ i, n ≤ i → f i = false) : cnt f 8 = cnt f n := by
  rw [cnt_congr (g := fun i => decide (i < n) && f i) (fun i _ => by
    by_cases e : i < n
    · simp [e]
    · simp [e, h i (by omega)]), cnt_cut, Nat.min_eq_right hn]
theorem pop_np {m n : Nat} (hn : n ≤ 8) (h : m < 2 ^ n) : pop m = cnt (inb m) n := cnt_np hn (fun i hi => by
  rw [inb_tb]
  exact Nat.testBit_lt_two_pow (Nat.lt_of_lt_of_le h (Nat.pow_le_pow_right (by omega) hi)))
theorem wpf_form {x : XS} {c m : Nat} : ∀ {n : Nat}, (∀ p, p < n → inb m p = true → ncf x p = true) → wpf x c m n = c ^ cnt (inb m) n * (16 - c) ^ cnt (fun p => ncf x p && !inb m p) n ∧ cnt (ncf x) n = cnt (inb m) n + cnt (fun p => ncf x p && !inb m p) n := by
  intro n
  induction n with
  | zero => intro _; exact ⟨rfl, rfl⟩
  | succ n ih =>
    intro h
    obtain ⟨a, b⟩ := ih (fun p hp => h p (by omega))
    have hn := h n (by omega)
    unfold wpf cnt
    rw [a, b]
    cases hi : inb m n with
    | true =>
      have h2 := hn hi
      have h3 : ¬ xk x n = 2 := by simpa [ncf] using h2
      simp only [wfa, if_neg h3, if_true, h2, Bool.not_true, Bool.and_false, Bool.false_eq_true, if_false, Nat.add_zero]
      refine ⟨?_, by omega⟩
      rw [Nat.pow_succ, Nat.mul_right_comm]
    | false =>
      cases hc : ncf x n with
      | true =>
        have h3 : ¬ xk x n = 2 := by simpa [ncf] using hc
        simp only [wfa, if_neg h3, Bool.false_eq_true, if_false, Bool.not_false, Bool.and_true, if_true, Nat.add_zero]
        refine ⟨?_, by omega⟩
        rw [Nat.pow_succ, Nat.mul_assoc]
      | false =>
        have h3 : xk x n = 2 := by simpa [ncf] using hc
        simp [wfa, h3]
theorem chg_sub {x : XS} {m : Nat} (n8 : xp x ≤ 8) (hm : m < 2 ^ xp x) : m &&& chg x = m ↔ ∀ p, p < xp x → inb m p = true → ncf x p = true := by
  constructor
  · intro h p hp hi
    have := sub_inb h p hi
    have e : inb (chg x) p = (decide (p < xp x) && ncf x p) := inb_bits _ _ _
    rw [e] at this
    simpa [hp] using this
  · intro h
    apply Nat.eq_of_testBit_eq
    intro i
    have e : inb (chg x) i = (decide (i < xp x) && ncf x i) := inb_bits _ _ _
    rw [Nat.testBit_and, ← inb_tb, ← inb_tb, e]
    cases hi : inb m i with
    | false => rfl
    | true =>
      have hl : i < xp x := Nat.lt_of_not_le fun z => by
        rw [inb_tb, Nat.testBit_lt_two_pow (Nat.lt_of_lt_of_le hm (Nat.pow_le_pow_right (by omega) z))] at hi
        cases hi
      simp [hl, h i hl hi]
theorem pop_chg {x : XS} (n8 : xp x ≤ 8) : pop (chg x) = cnt (ncf x) (xp x) := pop_bits n8
theorem wgt_wpf {x : XS} {c m : Nat} (n8 : xp x ≤ 8) (hm : m < 2 ^ xp x) : wgt x c m = wpf x c m (xp x) := by
  unfold wgt
  by_cases h : m &&& chg x = m
  · rw [if_pos h]
    obtain ⟨a, b⟩ := wpf_form (c := c) ((chg_sub n8 hm).mp h)
    rw [a, pop_chg n8, pop_np n8 hm, b, Nat.add_sub_cancel_left]
  · rw [if_neg h]
    have h2 : ∃ p, p < xp x ∧ inb m p = true ∧ ncf x p = false := by
      apply Classical.byContradiction
      intro hn
      apply h
      rw [chg_sub n8 hm]
      intro p hp hi
      cases e : ncf x p with
      | true => rfl
      | false => exact absurd ⟨p, hp, hi, e⟩ hn
    obtain ⟨p, hp, hi, hc⟩ := h2
    have h3 : xk x p = 2 := by simpa [ncf] using hc
    have z : ∀ n, p < n → wpf x c m n = 0 := by
      intro n
      induction n with
      | zero => intro q; omega
      | succ n ih =>
        intro q
        unfold wpf
        rcases Nat.lt_or_ge p n with r | r
        · rw [ih r, Nat.zero_mul]
        · rw [show n = p by omega]
          simp [wfa, h3, hi]
    exact (z _ hp).symm
theorem nsum_all {x : XS} {c h q : Nat} : ∀ n, nsum x c h q n ≤ sumf (wgt x c) n ∧ (nsum x c h q n = sumf (wgt x c) n ↔ alls (rfF x c q h) n = true) := by
  intro n
  induction n with
  | zero => exact ⟨Nat.le_refl _, ⟨fun _ => rfl, fun _ => rfl⟩⟩
  | succ n ih =>
    obtain ⟨a, b⟩ := ih
    have hf : rfF x c q h n = (decide (wgt x c n = 0) || nmet x n h q) := rfl
    show nsum x c h q n + (if nmet x n h q then wgt x c n else 0) ≤ sumf (wgt x c) n + wgt x c n ∧ (nsum x c h q n + (if nmet x n h q then wgt x c n else 0) = sumf (wgt x c) n + wgt x c n ↔ (alls (rfF x c q h) n && rfF x c q h n) = true)
    rw [hf]
    by_cases hm : nmet x n h q = true
    · rw [if_pos hm, hm]
      simp only [Bool.or_true, Bool.and_true]
      exact ⟨by omega, by rw [← b]; omega⟩
    · rw [if_neg hm, show nmet x n h q = false by simpa using hm]
      simp only [Bool.or_false, Bool.and_eq_true, decide_eq_true_eq]
      refine ⟨by omega, ?_⟩
      rw [← b]
      omega
theorem sure_all {x : XS} {c h q : Nat} (n8 : xp x ≤ 8) (hc : c ≤ 16) : nsum x c h q (2 ^ xp x) = 16 ^ pop (chg x) ↔ surex x c q h = true := by
  have e : sumf (wgt x c) (2 ^ xp x) = 16 ^ pop (chg x) := by
    rw [sumf_cg (H := fun m => wpf x c m (xp x)) (fun m hm => wgt_wpf n8 hm), wpf_tot hc, pop_chg n8]
  rw [← e]
  exact (nsum_all (2 ^ xp x)).2
/-- the weight, as the model makes it -/
def wpr (x : XS) (c m : Nat) : Nat → Nat
  | 0 => 1
  | n + 1 => wpr x c m n * (if xk x n = 2 then 1 else if inb m n then c else 16 - c)
theorem wpr_wpf {x : XS} {c m : Nat} : ∀ {n : Nat}, (∀ p, p < n → inb m p = true → ncf x p = true) → wpr x c m n = wpf x c m n := by
  intro n
  induction n with
  | zero => intro _; rfl
  | succ n ih =>
    intro h
    unfold wpr wpf
    rw [ih (fun p hp => h p (by omega))]
    congr 1
    unfold wfa
    by_cases k : xk x n = 2
    · rw [if_pos k, if_pos k]
      cases hi : inb m n with
      | false => rfl
      | true => have := h n (by omega) hi; simp [ncf, k] at this
    · rw [if_neg k, if_neg k]
theorem wpr_le {x : XS} {c m : Nat} (hc : c ≤ 16) : ∀ n, wpr x c m n ≤ 16 ^ n := by
  intro n
  induction n with
  | zero => exact Nat.le_refl _
  | succ n ih =>
    unfold wpr
    rw [Nat.pow_succ]
    refine Nat.mul_le_mul ih ?_
    split
    · omega
    · split <;> omega
theorem ffst_bef {P : Nat → Bool} : ∀ n k, k < ffst P n → P k = false := by
  intro n
  induction n with
  | zero => intro k hk; exact absurd hk (Nat.not_lt_zero _)
  | succ n ih =>
    intro k hk
    unfold ffst at hk
    have hl := ffst_le P n
    split at hk
    · exact ih k hk
    · split at hk
      · exact ih k (by omega)
      · next h1 h2 =>
        rcases Nat.lt_or_ge k n with z | z
        · exact ih k (by omega)
        · rw [show k = n by omega]; simpa using h2
theorem flb_z {x : XS} {a : Nat → Int32} {b : Nat → Nat} : flb a b (xp x) (xq x) = 0 ↔ ¬ lsS x a b < xq x := by
  unfold flb lsS
  rw [bits_zero]
  constructor
  · intro h; rw [ffst_none h]; omega
  · intro h i hi
    exact ffst_bef (P := fun y => decide (2 ≤ cnt (isdk a b y) (xp x))) (xq x) i (by omega)
theorem uj_s {σ : St} {k j : Nat} {v : Int64} : (uj σ k (vp_updL (σ.2 k) j v)).2 k j = v := by simp [uj, vp_updL]
theorem uj_o {σ : St} {k j i : Nat} {v : Int64} (h : i ≠ j) : (uj σ k (vp_updL (σ.2 k) j v)).2 k i = σ.2 k i := by simp [uj, vp_updL, h]
theorem uj_n {σ : St} {k k' : Nat} {f : Nat → Int64} (h : k' ≠ k) : (uj σ k f).2 k' = σ.2 k' := by simp [uj, h]
set_option maxRecDepth 100000 in
set_option maxHeartbeats 4000000 in
theorem sX5_lot {G : GW} {σ : St} {K : Int32 → St → Prop} {m : Nat} {s : Int32} (h0 : 0 < m) (hm : m ≤ 8) (hs : σ.1 42 24 = s) (hQ : K (nI (u16 (nl s) % m)) (ur σ 42 (upd (σ.1 42) 24 (nl s)))) : Ci G (r0 0 0) mX5_lot [rf G 42, .int (nI m)] σ K := by
  refine Ci.of [some (rf G 42), some (.int (nI m))] ?_
  refine A.al0 eX5_lot_0 ?_
  refine A.ldcw eX5_lot_1 nX5_265 ?_
  refine A.al0 eX5_lot_4 ?_
  refine A.getI eX5_lot_5 fX5_266 ko42 ?_
  refine A.top hs ?_
  refine A.imul eX5_lot_8 ?_
  refine A.sipush (v := nI 12345) eX5_lot_9 (by decide) ?_
  refine A.iadd eX5_lot_12 ?_
  refine A.putI eX5_lot_13 pX5_266 ko42 ?_
  refine A.al0 eX5_lot_16 ?_
  refine A.getI eX5_lot_17 fX5_266 ko42 ?_
  refine A.top (show _ = nl s by rw [ur_s, upd_s]; rfl) ?_
  refine A.bipush (v := nI 16) eX5_lot_20 (by decide) ?_
  refine A.iushr eX5_lot_22 rfl ?_
  refine A.top (ushr16 _) ?_
  have hu1 := u16_lt (nl s)
  refine A.il1 eX5_lot_23 ?_
  refine A.iremN eX5_lot_24 ?_
  refine B.iret eX5_lot_25 ?_
  exact hQ
set_option maxRecDepth 100000 in
set_option maxHeartbeats 4000000 in
theorem sX5_dayOfP {G : GW} {σ : St} {K : Int32 → St → Prop} {x : XS} {s : Int32} {p : Nat} (hF : FM x σ) (bp : p < xp x) (hQ : ∀ τ : St, FM x τ → Fq (xg x).1 σ τ → K (Vday x s p) τ) : Ci G (r0 4 95) mX5_dayOf [rf G 42, .int s, .int (nI p)] σ K := by
  refine Ci.of [some (rf G 42), some (.int s), some (.int (nI p)), none, none, none] ?_
  have n8 := hF.np8
  have q6 := hF.nq6
  have g20 := hF.1.2.1.2.1
  refine A.al0 eX5_dayOf_0 ?_
  refine A.il1 eX5_dayOf_1 ?_
  refine A.putI eX5_dayOf_2 pX5_266 ko42 ?_
  refine A.al0 eX5_dayOf_5 ?_
  refine A.getI eX5_dayOf_6 fX5_142 ko42 ?_
  refine A.top (show (ur σ 42 (upd (σ.1 42) 24 s)).1 42 10 = nI (xg x).1 by rw [ur_s, upd_n (by omega)]; exact hF.1.2.1.1) ?_
  refine A.is3 eX5_dayOf_9 ?_
  refine A.iconst (v := nI 0) eX5_dayOf_10 (by decide) ?_
  refine A.is4 eX5_dayOf_11 ?_
  have lp : ∀ (fu i : Nat) (ρ : St), 24 - i < fu → i ≤ 24 → WM x σ ρ → (∀ p, p < xp x → ρ.1 54 p = nI (xb x p)) → ρ.1 42 24 = lts s i → (∃ gh gp gq : Nat → Nat, M3 ρ 51 ((xg x).1 + i) 24 8 6 gh gp gq ∧ ∀ g p, tlf gh gp gq ((xg x).1 + i) g p = if g < i ∧ p = u16 (nl (lts s g)) % xp x then nI (u16 (nl (nl (lts s g))) % xq x) else xT x g p) → (i = 0 ∨ (0 < xp x ∧ 0 < xq x)) → B G (r0 4 95) mX5_dayOf 13 [some (rf G 42), some (.int s), some (.int (nI p)), some (.int (nI ((xg x).1 + i))), some (.int (nI i)), none] [] (ρ) (Pi K) := by
    intro fu
    induction fu with
    | zero => intro i ρ h1 h2; omega
    | succ fu ih =>
      intro i ρ h1 h2 e1 e4 e5 e6 e7
      refine A.il4 eX5_dayOf_13 ?_
      refine A.bipush (v := nI 24) eX5_dayOf_15 (by decide) ?_
      refine A.icmp_geN eX5_dayOf_17 (fun yx1 => ?_) (fun yx1 => ?_)
      · obtain ⟨gh, gp, gq, ag1, ag2⟩ := e6
        have ag3 : ∀ h, h < 24 → ∀ p, tlf gh gp gq ((xg x).1 + i) h p = dT x s h p := by
          intro g hg p
          rw [ag2 g p]
          unfold dT
          rcases e7 with z | z
          · rw [if_neg (by omega)]
            first
              | rw [if_neg (fun w => by have := w.1; have := w.2.1; omega)]
              | (exfalso; omega)
          · first
              | (have e24 : i = 24 := by omega
                 by_cases w : p = u16 (nl (lts s g)) % xp x
                 · rw [if_pos ⟨by omega, w⟩, if_pos ⟨z.1, z.2, w⟩]
                 · rw [if_neg (fun v => w v.2), if_neg (fun v => w v.2.2)])
              | (exfalso; omega)
        refine A.al0 eX5_dayOf_78 ?_
        refine A.il3 eX5_dayOf_79 ?_
        refine A.cVv1 eX5_dayOf_80 oX5_lives kX5_171 ko42 (lvT (x := x) (b0 := xb x) (T := dT x s) (hF.1.cg e1.1) e1.2 (by omega) ag1 ag3 (fun p hp => ⟨e4 p hp, xb_le hp⟩) (fun τ r1 r2 => ?_))
        refine A.iconst (v := nI 0) eX5_dayOf_83 (by decide) ?_
        refine A.is4 eX5_dayOf_84 ?_
        refine A.iconst (v := nI 0) eX5_dayOf_86 (by decide) ?_
        refine A.is5 eX5_dayOf_87 ?_
        have lq : ∀ (fu j : Nat), 24 - j < fu → j ≤ 24 → B G (r0 4 95) mX5_dayOf 89 [some (rf G 42), some (.int s), some (.int (nI p)), some (.int (nI ((xg x).1 + i))), some (.int (nI (cnt (fun h => decide (lsS x (aT x (dT x s) h) (bT x (dT x s) (xb x) h) < xq x)) j))), some (.int (nI j))] [] (τ) (Pi K) := by
          intro fu
          induction fu with
          | zero => intro j  h1 h2; omega
          | succ fu ihq =>
            intro j  h1 h2 
            have hcj := cnt_le (fun h => decide (lsS x (aT x (dT x s) h) (bT x (dT x s) (xb x) h) < xq x)) j
            refine A.il5 eX5_dayOf_89 ?_
            refine A.bipush (v := nI 24) eX5_dayOf_91 (by decide) ?_
            refine A.icmp_geN eX5_dayOf_93 (fun c2 => ?_) (fun c2 => ?_)
            · have ej : j = 24 := by omega
              subst ej
              refine A.il2 eX5_dayOf_122 ?_
              refine A.iconst (v := -1) eX5_dayOf_123 (by decide) ?_
              refine A.icmp_ne eX5_dayOf_124 (fun yd2 => ?_) (fun yd2 => ?_)
              · refine A.al0 eX5_dayOf_132 ?_
                refine A.getR eX5_dayOf_133 fX5_40 ko42 kr42_13 ?_
                refine A.sipush (v := nI 184) eX5_dayOf_136 (by decide) ?_
                refine A.il2 eX5_dayOf_139 ?_
                refine A.iaddN eX5_dayOf_140 ?_
                refine A.ialdN eX5_dayOf_141 ka53 ?_
                refine A.top (show τ.1 53 (184 + p) = nI (bT x (dT x s) (xb x) 23 p) from ((r2 23 (by omega)).1 p bp).2.1) ?_
                refine A.is5 eX5_dayOf_142 ?_
                refine A.al0 eX5_dayOf_144 ?_
                refine A.al0 eX5_dayOf_145 ?_
                refine A.getI eX5_dayOf_146 fX5_142 ko42 ?_
                refine A.top ((hF.1.cg e1.1).cg r1.fq).2.1.1 ?_
                refine A.cVv1 eX5_dayOf_149 oX5_lives kX5_171 ko42 (lvG (b0 := xb x) ((hF.1.cg e1.1).cg r1.fq) (r1.rx e1.2) (fun p hp => ⟨by rw [r1.1 54 (by omega) (by omega) (by omega)]; exact e4 p hp, xb_le hp⟩) (fun ζ z1 z2 => ?_))
                refine A.il5 eX5_dayOf_152 ?_
                refine B.iret eX5_dayOf_154 ?_
                exact hQ ζ (FM.mv hF ((e1.1.tr r1.fq).tr z1.fq) (z1.rx (r1.rx e1.2)) (fun p hp => by rw [z1.1 54 (by omega) (by omega) (by omega), r1.1 54 (by omega) (by omega) (by omega)]; exact e4 p hp) z2) ((e1.1.tr r1.fq).tr z1.fq)
              · exact absurd yd2 (nI_nm1 (by omega))
            · refine A.il4 eX5_dayOf_96 ?_
              refine A.al0 eX5_dayOf_98 ?_
              refine A.getR eX5_dayOf_99 fX5_46 ko42 kr42_15 ?_
              refine A.il5 eX5_dayOf_102 ?_
              refine A.ialdN eX5_dayOf_104 ka55 ?_
              refine A.top (r2 j (by omega)).2 ?_
              have hf64 := flb_lt (aT x (dT x s) j) (bT x (dT x s) (xb x) j) (xp x) q6
              refine A.if_eqN eX5_dayOf_105 (fun yd1 => ?_) (fun yd1 => ?_)
              · refine A.iconst (v := nI 0) eX5_dayOf_112 (by decide) ?_
                refine A.iaddN eX5_dayOf_113 ?_
                refine A.is4 eX5_dayOf_114 ?_
                refine A.inc5N eX5_dayOf_116 ?_
                refine A.goto eX5_dayOf_119 ?_
                first
                  | (have yq : (fun h => decide (lsS x (aT x (dT x s) h) (bT x (dT x s) (xb x) h) < xq x)) j = false := decide_eq_false (flb_z.mp yd1)
                     exact A.eq (by simp [cnt, yq]) rfl rfl (ihq (j + 1) (by omega) (by omega)))
                  | (have yq : (fun h => decide (lsS x (aT x (dT x s) h) (bT x (dT x s) (xb x) h) < xq x)) j = true := decide_eq_true (Decidable.byContradiction fun z => yd1 (flb_z.mpr z))
                     exact A.eq (by simp only [cnt, yq, if_true]) rfl rfl (ihq (j + 1) (by omega) (by omega)))
              · refine A.iconst (v := nI 1) eX5_dayOf_108 (by decide) ?_
                refine A.goto eX5_dayOf_109 ?_
                refine A.iaddN eX5_dayOf_113 ?_
                refine A.is4 eX5_dayOf_114 ?_
                refine A.inc5N eX5_dayOf_116 ?_
                refine A.goto eX5_dayOf_119 ?_
                first
                  | (have yq : (fun h => decide (lsS x (aT x (dT x s) h) (bT x (dT x s) (xb x) h) < xq x)) j = false := decide_eq_false (flb_z.mp yd1)
                     exact A.eq (by simp [cnt, yq]) rfl rfl (ihq (j + 1) (by omega) (by omega)))
                  | (have yq : (fun h => decide (lsS x (aT x (dT x s) h) (bT x (dT x s) (xb x) h) < xq x)) j = true := decide_eq_true (Decidable.byContradiction fun z => yd1 (flb_z.mpr z))
                     exact A.eq (by simp only [cnt, yq, if_true]) rfl rfl (ihq (j + 1) (by omega) (by omega)))
        exact lq 25 0 (by omega) (by omega)
      · refine A.al0 eX5_dayOf_20 ?_
        refine A.getR eX5_dayOf_21 fX5_28 ko42 kr42_8 ?_
        refine A.iconst (v := nI 0) eX5_dayOf_24 (by decide) ?_
        refine A.ialdN eX5_dayOf_25 ka49 ?_
        refine A.top e1.2.1 ?_
        refine A.topZ ?_
        refine A.if_leZ eX5_dayOf_26 (fun yx2 => ?_) (fun yx2 => ?_)
        · obtain ⟨gh, gp, gq, ag1, ag2⟩ := e6
          have ag3 : ∀ h, h < 24 → ∀ p, tlf gh gp gq ((xg x).1 + i) h p = dT x s h p := by
            intro g hg p
            rw [ag2 g p]
            unfold dT
            rcases e7 with z | z
            · rw [if_neg (by omega)]
              first
                | rw [if_neg (fun w => by have := w.1; have := w.2.1; omega)]
                | (exfalso; omega)
            · first
                | (have e24 : i = 24 := by omega
                   by_cases w : p = u16 (nl (lts s g)) % xp x
                   · rw [if_pos ⟨by omega, w⟩, if_pos ⟨z.1, z.2, w⟩]
                   · rw [if_neg (fun v => w v.2), if_neg (fun v => w v.2.2)])
                | (exfalso; omega)
          refine A.al0 eX5_dayOf_78 ?_
          refine A.il3 eX5_dayOf_79 ?_
          refine A.cVv1 eX5_dayOf_80 oX5_lives kX5_171 ko42 (lvT (x := x) (b0 := xb x) (T := dT x s) (hF.1.cg e1.1) e1.2 (by omega) ag1 ag3 (fun p hp => ⟨e4 p hp, xb_le hp⟩) (fun τ r1 r2 => ?_))
          refine A.iconst (v := nI 0) eX5_dayOf_83 (by decide) ?_
          refine A.is4 eX5_dayOf_84 ?_
          refine A.iconst (v := nI 0) eX5_dayOf_86 (by decide) ?_
          refine A.is5 eX5_dayOf_87 ?_
          have lq : ∀ (fu j : Nat), 24 - j < fu → j ≤ 24 → B G (r0 4 95) mX5_dayOf 89 [some (rf G 42), some (.int s), some (.int (nI p)), some (.int (nI ((xg x).1 + i))), some (.int (nI (cnt (fun h => decide (lsS x (aT x (dT x s) h) (bT x (dT x s) (xb x) h) < xq x)) j))), some (.int (nI j))] [] (τ) (Pi K) := by
            intro fu
            induction fu with
            | zero => intro j  h1 h2; omega
            | succ fu ihq =>
              intro j  h1 h2 
              have hcj := cnt_le (fun h => decide (lsS x (aT x (dT x s) h) (bT x (dT x s) (xb x) h) < xq x)) j
              refine A.il5 eX5_dayOf_89 ?_
              refine A.bipush (v := nI 24) eX5_dayOf_91 (by decide) ?_
              refine A.icmp_geN eX5_dayOf_93 (fun c6 => ?_) (fun c6 => ?_)
              · have ej : j = 24 := by omega
                subst ej
                refine A.il2 eX5_dayOf_122 ?_
                refine A.iconst (v := -1) eX5_dayOf_123 (by decide) ?_
                refine A.icmp_ne eX5_dayOf_124 (fun yd2 => ?_) (fun yd2 => ?_)
                · refine A.al0 eX5_dayOf_132 ?_
                  refine A.getR eX5_dayOf_133 fX5_40 ko42 kr42_13 ?_
                  refine A.sipush (v := nI 184) eX5_dayOf_136 (by decide) ?_
                  refine A.il2 eX5_dayOf_139 ?_
                  refine A.iaddN eX5_dayOf_140 ?_
                  refine A.ialdN eX5_dayOf_141 ka53 ?_
                  refine A.top (show τ.1 53 (184 + p) = nI (bT x (dT x s) (xb x) 23 p) from ((r2 23 (by omega)).1 p bp).2.1) ?_
                  refine A.is5 eX5_dayOf_142 ?_
                  refine A.al0 eX5_dayOf_144 ?_
                  refine A.al0 eX5_dayOf_145 ?_
                  refine A.getI eX5_dayOf_146 fX5_142 ko42 ?_
                  refine A.top ((hF.1.cg e1.1).cg r1.fq).2.1.1 ?_
                  refine A.cVv1 eX5_dayOf_149 oX5_lives kX5_171 ko42 (lvG (b0 := xb x) ((hF.1.cg e1.1).cg r1.fq) (r1.rx e1.2) (fun p hp => ⟨by rw [r1.1 54 (by omega) (by omega) (by omega)]; exact e4 p hp, xb_le hp⟩) (fun ζ z1 z2 => ?_))
                  refine A.il5 eX5_dayOf_152 ?_
                  refine B.iret eX5_dayOf_154 ?_
                  exact hQ ζ (FM.mv hF ((e1.1.tr r1.fq).tr z1.fq) (z1.rx (r1.rx e1.2)) (fun p hp => by rw [z1.1 54 (by omega) (by omega) (by omega), r1.1 54 (by omega) (by omega) (by omega)]; exact e4 p hp) z2) ((e1.1.tr r1.fq).tr z1.fq)
                · exact absurd yd2 (nI_nm1 (by omega))
              · refine A.il4 eX5_dayOf_96 ?_
                refine A.al0 eX5_dayOf_98 ?_
                refine A.getR eX5_dayOf_99 fX5_46 ko42 kr42_15 ?_
                refine A.il5 eX5_dayOf_102 ?_
                refine A.ialdN eX5_dayOf_104 ka55 ?_
                refine A.top (r2 j (by omega)).2 ?_
                have hf64 := flb_lt (aT x (dT x s) j) (bT x (dT x s) (xb x) j) (xp x) q6
                refine A.if_eqN eX5_dayOf_105 (fun yd1 => ?_) (fun yd1 => ?_)
                · refine A.iconst (v := nI 0) eX5_dayOf_112 (by decide) ?_
                  refine A.iaddN eX5_dayOf_113 ?_
                  refine A.is4 eX5_dayOf_114 ?_
                  refine A.inc5N eX5_dayOf_116 ?_
                  refine A.goto eX5_dayOf_119 ?_
                  first
                    | (have yq : (fun h => decide (lsS x (aT x (dT x s) h) (bT x (dT x s) (xb x) h) < xq x)) j = false := decide_eq_false (flb_z.mp yd1)
                       exact A.eq (by simp [cnt, yq]) rfl rfl (ihq (j + 1) (by omega) (by omega)))
                    | (have yq : (fun h => decide (lsS x (aT x (dT x s) h) (bT x (dT x s) (xb x) h) < xq x)) j = true := decide_eq_true (Decidable.byContradiction fun z => yd1 (flb_z.mpr z))
                       exact A.eq (by simp only [cnt, yq, if_true]) rfl rfl (ihq (j + 1) (by omega) (by omega)))
                · refine A.iconst (v := nI 1) eX5_dayOf_108 (by decide) ?_
                  refine A.goto eX5_dayOf_109 ?_
                  refine A.iaddN eX5_dayOf_113 ?_
                  refine A.is4 eX5_dayOf_114 ?_
                  refine A.inc5N eX5_dayOf_116 ?_
                  refine A.goto eX5_dayOf_119 ?_
                  first
                    | (have yq : (fun h => decide (lsS x (aT x (dT x s) h) (bT x (dT x s) (xb x) h) < xq x)) j = false := decide_eq_false (flb_z.mp yd1)
                       exact A.eq (by simp [cnt, yq]) rfl rfl (ihq (j + 1) (by omega) (by omega)))
                    | (have yq : (fun h => decide (lsS x (aT x (dT x s) h) (bT x (dT x s) (xb x) h) < xq x)) j = true := decide_eq_true (Decidable.byContradiction fun z => yd1 (flb_z.mpr z))
                       exact A.eq (by simp only [cnt, yq, if_true]) rfl rfl (ihq (j + 1) (by omega) (by omega)))
          exact lq 25 0 (by omega) (by omega)
        · refine A.al0 eX5_dayOf_29 ?_
          refine A.getR eX5_dayOf_30 fX5_28 ko42 kr42_8 ?_
          refine A.iconst (v := nI 1) eX5_dayOf_33 (by decide) ?_
          refine A.ialdN eX5_dayOf_34 ka49 ?_
          refine A.top e1.2.2.1 ?_
          refine A.topZ ?_
          refine A.if_leZ eX5_dayOf_35 (fun yx3 => ?_) (fun yx3 => ?_)
          · obtain ⟨gh, gp, gq, ag1, ag2⟩ := e6
            have ag3 : ∀ h, h < 24 → ∀ p, tlf gh gp gq ((xg x).1 + i) h p = dT x s h p := by
              intro g hg p
              rw [ag2 g p]
              unfold dT
              rcases e7 with z | z
              · rw [if_neg (by omega)]
                first
                  | rw [if_neg (fun w => by have := w.1; have := w.2.1; omega)]
                  | (exfalso; omega)
              · first
                  | (have e24 : i = 24 := by omega
                     by_cases w : p = u16 (nl (lts s g)) % xp x
                     · rw [if_pos ⟨by omega, w⟩, if_pos ⟨z.1, z.2, w⟩]
                     · rw [if_neg (fun v => w v.2), if_neg (fun v => w v.2.2)])
                  | (exfalso; omega)
            refine A.al0 eX5_dayOf_78 ?_
            refine A.il3 eX5_dayOf_79 ?_
            refine A.cVv1 eX5_dayOf_80 oX5_lives kX5_171 ko42 (lvT (x := x) (b0 := xb x) (T := dT x s) (hF.1.cg e1.1) e1.2 (by omega) ag1 ag3 (fun p hp => ⟨e4 p hp, xb_le hp⟩) (fun τ r1 r2 => ?_))
            refine A.iconst (v := nI 0) eX5_dayOf_83 (by decide) ?_
            refine A.is4 eX5_dayOf_84 ?_
            refine A.iconst (v := nI 0) eX5_dayOf_86 (by decide) ?_
            refine A.is5 eX5_dayOf_87 ?_
            have lq : ∀ (fu j : Nat), 24 - j < fu → j ≤ 24 → B G (r0 4 95) mX5_dayOf 89 [some (rf G 42), some (.int s), some (.int (nI p)), some (.int (nI ((xg x).1 + i))), some (.int (nI (cnt (fun h => decide (lsS x (aT x (dT x s) h) (bT x (dT x s) (xb x) h) < xq x)) j))), some (.int (nI j))] [] (τ) (Pi K) := by
              intro fu
              induction fu with
              | zero => intro j  h1 h2; omega
              | succ fu ihq =>
                intro j  h1 h2 
                have hcj := cnt_le (fun h => decide (lsS x (aT x (dT x s) h) (bT x (dT x s) (xb x) h) < xq x)) j
                refine A.il5 eX5_dayOf_89 ?_
                refine A.bipush (v := nI 24) eX5_dayOf_91 (by decide) ?_
                refine A.icmp_geN eX5_dayOf_93 (fun c10 => ?_) (fun c10 => ?_)
                · have ej : j = 24 := by omega
                  subst ej
                  refine A.il2 eX5_dayOf_122 ?_
                  refine A.iconst (v := -1) eX5_dayOf_123 (by decide) ?_
                  refine A.icmp_ne eX5_dayOf_124 (fun yd2 => ?_) (fun yd2 => ?_)
                  · refine A.al0 eX5_dayOf_132 ?_
                    refine A.getR eX5_dayOf_133 fX5_40 ko42 kr42_13 ?_
                    refine A.sipush (v := nI 184) eX5_dayOf_136 (by decide) ?_
                    refine A.il2 eX5_dayOf_139 ?_
                    refine A.iaddN eX5_dayOf_140 ?_
                    refine A.ialdN eX5_dayOf_141 ka53 ?_
                    refine A.top (show τ.1 53 (184 + p) = nI (bT x (dT x s) (xb x) 23 p) from ((r2 23 (by omega)).1 p bp).2.1) ?_
                    refine A.is5 eX5_dayOf_142 ?_
                    refine A.al0 eX5_dayOf_144 ?_
                    refine A.al0 eX5_dayOf_145 ?_
                    refine A.getI eX5_dayOf_146 fX5_142 ko42 ?_
                    refine A.top ((hF.1.cg e1.1).cg r1.fq).2.1.1 ?_
                    refine A.cVv1 eX5_dayOf_149 oX5_lives kX5_171 ko42 (lvG (b0 := xb x) ((hF.1.cg e1.1).cg r1.fq) (r1.rx e1.2) (fun p hp => ⟨by rw [r1.1 54 (by omega) (by omega) (by omega)]; exact e4 p hp, xb_le hp⟩) (fun ζ z1 z2 => ?_))
                    refine A.il5 eX5_dayOf_152 ?_
                    refine B.iret eX5_dayOf_154 ?_
                    exact hQ ζ (FM.mv hF ((e1.1.tr r1.fq).tr z1.fq) (z1.rx (r1.rx e1.2)) (fun p hp => by rw [z1.1 54 (by omega) (by omega) (by omega), r1.1 54 (by omega) (by omega) (by omega)]; exact e4 p hp) z2) ((e1.1.tr r1.fq).tr z1.fq)
                  · exact absurd yd2 (nI_nm1 (by omega))
                · refine A.il4 eX5_dayOf_96 ?_
                  refine A.al0 eX5_dayOf_98 ?_
                  refine A.getR eX5_dayOf_99 fX5_46 ko42 kr42_15 ?_
                  refine A.il5 eX5_dayOf_102 ?_
                  refine A.ialdN eX5_dayOf_104 ka55 ?_
                  refine A.top (r2 j (by omega)).2 ?_
                  have hf64 := flb_lt (aT x (dT x s) j) (bT x (dT x s) (xb x) j) (xp x) q6
                  refine A.if_eqN eX5_dayOf_105 (fun yd1 => ?_) (fun yd1 => ?_)
                  · refine A.iconst (v := nI 0) eX5_dayOf_112 (by decide) ?_
                    refine A.iaddN eX5_dayOf_113 ?_
                    refine A.is4 eX5_dayOf_114 ?_
                    refine A.inc5N eX5_dayOf_116 ?_
                    refine A.goto eX5_dayOf_119 ?_
                    first
                      | (have yq : (fun h => decide (lsS x (aT x (dT x s) h) (bT x (dT x s) (xb x) h) < xq x)) j = false := decide_eq_false (flb_z.mp yd1)
                         exact A.eq (by simp [cnt, yq]) rfl rfl (ihq (j + 1) (by omega) (by omega)))
                      | (have yq : (fun h => decide (lsS x (aT x (dT x s) h) (bT x (dT x s) (xb x) h) < xq x)) j = true := decide_eq_true (Decidable.byContradiction fun z => yd1 (flb_z.mpr z))
                         exact A.eq (by simp only [cnt, yq, if_true]) rfl rfl (ihq (j + 1) (by omega) (by omega)))
                  · refine A.iconst (v := nI 1) eX5_dayOf_108 (by decide) ?_
                    refine A.goto eX5_dayOf_109 ?_
                    refine A.iaddN eX5_dayOf_113 ?_
                    refine A.is4 eX5_dayOf_114 ?_
                    refine A.inc5N eX5_dayOf_116 ?_
                    refine A.goto eX5_dayOf_119 ?_
                    first
                      | (have yq : (fun h => decide (lsS x (aT x (dT x s) h) (bT x (dT x s) (xb x) h) < xq x)) j = false := decide_eq_false (flb_z.mp yd1)
                         exact A.eq (by simp [cnt, yq]) rfl rfl (ihq (j + 1) (by omega) (by omega)))
                      | (have yq : (fun h => decide (lsS x (aT x (dT x s) h) (bT x (dT x s) (xb x) h) < xq x)) j = true := decide_eq_true (Decidable.byContradiction fun z => yd1 (flb_z.mpr z))
                         exact A.eq (by simp only [cnt, yq, if_true]) rfl rfl (ihq (j + 1) (by omega) (by omega)))
            exact lq 25 0 (by omega) (by omega)
          · refine A.al0 eX5_dayOf_38 ?_
            refine A.al0 eX5_dayOf_39 ?_
            refine A.getR eX5_dayOf_40 fX5_28 ko42 kr42_8 ?_
            refine A.iconst (v := nI 0) eX5_dayOf_43 (by decide) ?_
            refine A.ialdN eX5_dayOf_44 ka49 ?_
            refine A.top e1.2.1 ?_
            refine A.cVi1 eX5_dayOf_45 oX5_lot kX5_269 ko42 (sX5_lot (m := xp x) (s := lts s i) (by omega) n8 e5 ?_)
            refine A.is5 eX5_dayOf_48 ?_
            refine A.al0 eX5_dayOf_50 ?_
            refine A.il3 eX5_dayOf_51 ?_
            refine A.il4 eX5_dayOf_52 ?_
            refine A.il5 eX5_dayOf_54 ?_
            refine A.al0 eX5_dayOf_56 ?_
            refine A.al0 eX5_dayOf_57 ?_
            refine A.getR eX5_dayOf_58 fX5_28 ko42 kr42_8 ?_
            refine A.iconst (v := nI 1) eX5_dayOf_61 (by decide) ?_
            refine A.ialdN eX5_dayOf_62 ka49 ?_
            refine A.top (show _ = nI (xq x) by rw [ur_n (by omega)]; exact e1.2.2.1) ?_
            refine A.cVi1 eX5_dayOf_63 oX5_lot kX5_269 ko42 (sX5_lot (m := xq x) (s := nl (lts s i)) (by omega) (by omega) (by rw [ur_s, upd_s]) ?_)
            refine A.cVv4 eX5_dayOf_66 oX5_goes kX5_145 ko42 (sX5_goes (k := (xg x).1 + i) (by omega) ?_)
            refine A.inc3N eX5_dayOf_69 ?_
            refine A.inc4N eX5_dayOf_72 ?_
            refine A.goto eX5_dayOf_75 ?_
            obtain ⟨gh, gp, gq, ag1, ag2⟩ := e6
            have hw8 : u16 (nl (lts s i)) % xp x < xp x := Nat.mod_lt _ (by omega)
            have hy6 : u16 (nl (nl (lts s i))) % xq x < xq x := Nat.mod_lt _ (by omega)
            have f1 : Fq (xg x).1 ρ (ur (ur ρ 42 (upd (ρ.1 42) 24 (nl (lts s i)))) 42 (upd ((ur ρ 42 (upd (ρ.1 42) 24 (nl (lts s i)))).1 42) 24 (nl (nl (lts s i))))) := ((Fq.rf _ ρ).u42 (Or.inr rfl)).u42 (Or.inr rfl)
            obtain ⟨gh', gp', gq', bg1, bg2⟩ := M3.go (σ := ur (ur ρ 42 (upd (ρ.1 42) 24 (nl (lts s i)))) 42 (upd ((ur ρ 42 (upd (ρ.1 42) 24 (nl (lts s i)))).1 42) 24 (nl (nl (lts s i))))) (a := i) (b := u16 (nl (lts s i)) % xp x) (c := u16 (nl (nl (lts s i))) % xq x) (by omega) (by omega) (by omega) (M3.cg (fun j _ => by rw [ur_n (by omega), ur_n (by omega)]) ag1) ag2
            refine A.eqw (by simp [wkL, Nat.add_assoc]) rfl rfl (ih (i + 1) _ (by omega) (by omega) ⟨(e1.1.tr f1).tr (g3_fq (Nat.le_add_right _ _)), RX.cg (by rw [g3_at.2.2.2.2 49 (by omega), ur_n (by omega), ur_n (by omega)]) (by rw [g3_at.2.2.2.2 50 (by omega), ur_n (by omega), ur_n (by omega)]) e1.2⟩ (fun p hp => by rw [g3_at.2.2.2.2 54 (by omega), ur_n (by omega), ur_n (by omega)]; exact e4 p hp) (by rw [g3_at.2.2.2.2 42 (by omega), ur_s, upd_s]; rfl) ⟨gh', gp', gq', bg1, fun g p => ?_⟩ (Or.inr ⟨by omega, by omega⟩))
            rw [show (xg x).1 + (i + 1) = (xg x).1 + i + 1 by omega, bg2 g p]
            by_cases z : g = i ∧ p = u16 (nl (lts s i)) % xp x
            · rw [if_pos z, if_pos ⟨by omega, by rw [z.1]; exact z.2⟩, z.1]
            · rw [if_neg z]
              by_cases w : g < i ∧ p = u16 (nl (lts s g)) % xp x
              · rw [if_pos w, if_pos ⟨by omega, w.2⟩]
              · rw [if_neg w, if_neg]
                intro v
                rcases Nat.lt_or_ge g i with t | t
                · exact w ⟨t, v.2⟩
                · have e : g = i := by omega
                  rw [e] at v
                  exact z ⟨e, v.2⟩
  exact A.eqw (by simp [wkL]) rfl rfl (lp 25 0 _ (by omega) (by omega) ⟨(Fq.rf _ σ).u42 (Or.inr rfl), RX.cg (ur_n (by omega)) (ur_n (by omega)) hF.2.1⟩ (fun p hp => by rw [ur_n (by omega)]; exact hF.2.2.1 p hp) (by rw [ur_s, upd_s]; rfl) ⟨_, _, _, M3.cg (fun j _ => by rw [ur_n (by omega)]) hF.1.2.1.2.2, fun g p => by rw [if_neg (by omega)]; rfl⟩ (Or.inl rfl))
set_option maxRecDepth 100000 in
set_option maxHeartbeats 4000000 in
theorem sX5_dayOfN {G : GW} {σ : St} {K : Int32 → St → Prop} {x : XS} {s : Int32} (hF : FM x σ) (hQ : ∀ τ : St, FM x τ → Fq (xg x).1 σ τ → K (VdayN x s) τ) : Ci G (r0 4 95) mX5_dayOf [rf G 42, .int s, .int (-1)] σ K := by
  refine Ci.of [some (rf G 42), some (.int s), some (.int (-1)), none, none, none] ?_
  have n8 := hF.np8
  have q6 := hF.nq6
  have g20 := hF.1.2.1.2.1
  refine A.al0 eX5_dayOf_0 ?_
  refine A.il1 eX5_dayOf_1 ?_
  refine A.putI eX5_dayOf_2 pX5_266 ko42 ?_
  refine A.al0 eX5_dayOf_5 ?_
  refine A.getI eX5_dayOf_6 fX5_142 ko42 ?_
  refine A.top (show (ur σ 42 (upd (σ.1 42) 24 s)).1 42 10 = nI (xg x).1 by rw [ur_s, upd_n (by omega)]; exact hF.1.2.1.1) ?_
  refine A.is3 eX5_dayOf_9 ?_
  refine A.iconst (v := nI 0) eX5_dayOf_10 (by decide) ?_
  refine A.is4 eX5_dayOf_11 ?_
  have lp : ∀ (fu i : Nat) (ρ : St), 24 - i < fu → i ≤ 24 → WM x σ ρ → (∀ p, p < xp x → ρ.1 54 p = nI (xb x p)) → ρ.1 42 24 = lts s i → (∃ gh gp gq : Nat → Nat, M3 ρ 51 ((xg x).1 + i) 24 8 6 gh gp gq ∧ ∀ g p, tlf gh gp gq ((xg x).1 + i) g p = if g < i ∧ p = u16 (nl (lts s g)) % xp x then nI (u16 (nl (nl (lts s g))) % xq x) else xT x g p) → (i = 0 ∨ (0 < xp x ∧ 0 < xq x)) → B G (r0 4 95) mX5_dayOf 13 [some (rf G 42), some (.int s), some (.int (-1)), some (.int (nI ((xg x).1 + i))), some (.int (nI i)), none] [] (ρ) (Pi K) := by
    intro fu
    induction fu with
    | zero => intro i ρ h1 h2; omega
    | succ fu ih =>
      intro i ρ h1 h2 e1 e4 e5 e6 e7
      refine A.il4 eX5_dayOf_13 ?_
      refine A.bipush (v := nI 24) eX5_dayOf_15 (by decide) ?_
      refine A.icmp_geN eX5_dayOf_17 (fun yx1 => ?_) (fun yx1 => ?_)
      · obtain ⟨gh, gp, gq, ag1, ag2⟩ := e6
        have ag3 : ∀ h, h < 24 → ∀ p, tlf gh gp gq ((xg x).1 + i) h p = dT x s h p := by
          intro g hg p
          rw [ag2 g p]
          unfold dT
          rcases e7 with z | z
          · rw [if_neg (by omega)]
            first
              | rw [if_neg (fun w => by have := w.1; have := w.2.1; omega)]
              | (exfalso; omega)
          · first
              | (have e24 : i = 24 := by omega
                 by_cases w : p = u16 (nl (lts s g)) % xp x
                 · rw [if_pos ⟨by omega, w⟩, if_pos ⟨z.1, z.2, w⟩]
                 · rw [if_neg (fun v => w v.2), if_neg (fun v => w v.2.2)])
              | (exfalso; omega)
        refine A.al0 eX5_dayOf_78 ?_
        refine A.il3 eX5_dayOf_79 ?_
        refine A.cVv1 eX5_dayOf_80 oX5_lives kX5_171 ko42 (lvT (x := x) (b0 := xb x) (T := dT x s) (hF.1.cg e1.1) e1.2 (by omega) ag1 ag3 (fun p hp => ⟨e4 p hp, xb_le hp⟩) (fun τ r1 r2 => ?_))
        refine A.iconst (v := nI 0) eX5_dayOf_83 (by decide) ?_
        refine A.is4 eX5_dayOf_84 ?_
        refine A.iconst (v := nI 0) eX5_dayOf_86 (by decide) ?_
        refine A.is5 eX5_dayOf_87 ?_
        have lq : ∀ (fu j : Nat), 24 - j < fu → j ≤ 24 → B G (r0 4 95) mX5_dayOf 89 [some (rf G 42), some (.int s), some (.int (-1)), some (.int (nI ((xg x).1 + i))), some (.int (nI (cnt (fun h => decide (lsS x (aT x (dT x s) h) (bT x (dT x s) (xb x) h) < xq x)) j))), some (.int (nI j))] [] (τ) (Pi K) := by
          intro fu
          induction fu with
          | zero => intro j  h1 h2; omega
          | succ fu ihq =>
            intro j  h1 h2 
            have hcj := cnt_le (fun h => decide (lsS x (aT x (dT x s) h) (bT x (dT x s) (xb x) h) < xq x)) j
            refine A.il5 eX5_dayOf_89 ?_
            refine A.bipush (v := nI 24) eX5_dayOf_91 (by decide) ?_
            refine A.icmp_geN eX5_dayOf_93 (fun c2 => ?_) (fun c2 => ?_)
            · have ej : j = 24 := by omega
              subst ej
              refine A.il2 eX5_dayOf_122 ?_
              refine A.iconst (v := -1) eX5_dayOf_123 (by decide) ?_
              refine A.icmp_ne eX5_dayOf_124 (fun yd2 => ?_) (fun yd2 => ?_)
              · exact absurd rfl yd2
              · refine A.il4 eX5_dayOf_127 ?_
                refine A.goto eX5_dayOf_129 ?_
                refine A.is5 eX5_dayOf_142 ?_
                refine A.al0 eX5_dayOf_144 ?_
                refine A.al0 eX5_dayOf_145 ?_
                refine A.getI eX5_dayOf_146 fX5_142 ko42 ?_
                refine A.top ((hF.1.cg e1.1).cg r1.fq).2.1.1 ?_
                refine A.cVv1 eX5_dayOf_149 oX5_lives kX5_171 ko42 (lvG (b0 := xb x) ((hF.1.cg e1.1).cg r1.fq) (r1.rx e1.2) (fun p hp => ⟨by rw [r1.1 54 (by omega) (by omega) (by omega)]; exact e4 p hp, xb_le hp⟩) (fun ζ z1 z2 => ?_))
                refine A.il5 eX5_dayOf_152 ?_
                refine B.iret eX5_dayOf_154 ?_
                exact hQ ζ (FM.mv hF ((e1.1.tr r1.fq).tr z1.fq) (z1.rx (r1.rx e1.2)) (fun p hp => by rw [z1.1 54 (by omega) (by omega) (by omega), r1.1 54 (by omega) (by omega) (by omega)]; exact e4 p hp) z2) ((e1.1.tr r1.fq).tr z1.fq)
            · refine A.il4 eX5_dayOf_96 ?_
              refine A.al0 eX5_dayOf_98 ?_
              refine A.getR eX5_dayOf_99 fX5_46 ko42 kr42_15 ?_
              refine A.il5 eX5_dayOf_102 ?_
              refine A.ialdN eX5_dayOf_104 ka55 ?_
              refine A.top (r2 j (by omega)).2 ?_
              have hf64 := flb_lt (aT x (dT x s) j) (bT x (dT x s) (xb x) j) (xp x) q6
              refine A.if_eqN eX5_dayOf_105 (fun yd1 => ?_) (fun yd1 => ?_)
              · refine A.iconst (v := nI 0) eX5_dayOf_112 (by decide) ?_
                refine A.iaddN eX5_dayOf_113 ?_
                refine A.is4 eX5_dayOf_114 ?_
                refine A.inc5N eX5_dayOf_116 ?_
                refine A.goto eX5_dayOf_119 ?_
                first
                  | (have yq : (fun h => decide (lsS x (aT x (dT x s) h) (bT x (dT x s) (xb x) h) < xq x)) j = false := decide_eq_false (flb_z.mp yd1)
                     exact A.eq (by simp [cnt, yq]) rfl rfl (ihq (j + 1) (by omega) (by omega)))
                  | (have yq : (fun h => decide (lsS x (aT x (dT x s) h) (bT x (dT x s) (xb x) h) < xq x)) j = true := decide_eq_true (Decidable.byContradiction fun z => yd1 (flb_z.mpr z))
                     exact A.eq (by simp only [cnt, yq, if_true]) rfl rfl (ihq (j + 1) (by omega) (by omega)))
              · refine A.iconst (v := nI 1) eX5_dayOf_108 (by decide) ?_
                refine A.goto eX5_dayOf_109 ?_
                refine A.iaddN eX5_dayOf_113 ?_
                refine A.is4 eX5_dayOf_114 ?_
                refine A.inc5N eX5_dayOf_116 ?_
                refine A.goto eX5_dayOf_119 ?_
                first
                  | (have yq : (fun h => decide (lsS x (aT x (dT x s) h) (bT x (dT x s) (xb x) h) < xq x)) j = false := decide_eq_false (flb_z.mp yd1)
                     exact A.eq (by simp [cnt, yq]) rfl rfl (ihq (j + 1) (by omega) (by omega)))
                  | (have yq : (fun h => decide (lsS x (aT x (dT x s) h) (bT x (dT x s) (xb x) h) < xq x)) j = true := decide_eq_true (Decidable.byContradiction fun z => yd1 (flb_z.mpr z))
                     exact A.eq (by simp only [cnt, yq, if_true]) rfl rfl (ihq (j + 1) (by omega) (by omega)))
        exact lq 25 0 (by omega) (by omega)
      · refine A.al0 eX5_dayOf_20 ?_
        refine A.getR eX5_dayOf_21 fX5_28 ko42 kr42_8 ?_
        refine A.iconst (v := nI 0) eX5_dayOf_24 (by decide) ?_
        refine A.ialdN eX5_dayOf_25 ka49 ?_
        refine A.top e1.2.1 ?_
        refine A.topZ ?_
        refine A.if_leZ eX5_dayOf_26 (fun yx2 => ?_) (fun yx2 => ?_)
        · obtain ⟨gh, gp, gq, ag1, ag2⟩ := e6
          have ag3 : ∀ h, h < 24 → ∀ p, tlf gh gp gq ((xg x).1 + i) h p = dT x s h p := by
            intro g hg p
            rw [ag2 g p]
            unfold dT
            rcases e7 with z | z
            · rw [if_neg (by omega)]
              first
                | rw [if_neg (fun w => by have := w.1; have := w.2.1; omega)]
                | (exfalso; omega)
            · first
                | (have e24 : i = 24 := by omega
                   by_cases w : p = u16 (nl (lts s g)) % xp x
                   · rw [if_pos ⟨by omega, w⟩, if_pos ⟨z.1, z.2, w⟩]
                   · rw [if_neg (fun v => w v.2), if_neg (fun v => w v.2.2)])
                | (exfalso; omega)
          refine A.al0 eX5_dayOf_78 ?_
          refine A.il3 eX5_dayOf_79 ?_
          refine A.cVv1 eX5_dayOf_80 oX5_lives kX5_171 ko42 (lvT (x := x) (b0 := xb x) (T := dT x s) (hF.1.cg e1.1) e1.2 (by omega) ag1 ag3 (fun p hp => ⟨e4 p hp, xb_le hp⟩) (fun τ r1 r2 => ?_))
          refine A.iconst (v := nI 0) eX5_dayOf_83 (by decide) ?_
          refine A.is4 eX5_dayOf_84 ?_
          refine A.iconst (v := nI 0) eX5_dayOf_86 (by decide) ?_
          refine A.is5 eX5_dayOf_87 ?_
          have lq : ∀ (fu j : Nat), 24 - j < fu → j ≤ 24 → B G (r0 4 95) mX5_dayOf 89 [some (rf G 42), some (.int s), some (.int (-1)), some (.int (nI ((xg x).1 + i))), some (.int (nI (cnt (fun h => decide (lsS x (aT x (dT x s) h) (bT x (dT x s) (xb x) h) < xq x)) j))), some (.int (nI j))] [] (τ) (Pi K) := by
            intro fu
            induction fu with
            | zero => intro j  h1 h2; omega
            | succ fu ihq =>
              intro j  h1 h2 
              have hcj := cnt_le (fun h => decide (lsS x (aT x (dT x s) h) (bT x (dT x s) (xb x) h) < xq x)) j
              refine A.il5 eX5_dayOf_89 ?_
              refine A.bipush (v := nI 24) eX5_dayOf_91 (by decide) ?_
              refine A.icmp_geN eX5_dayOf_93 (fun c6 => ?_) (fun c6 => ?_)
              · have ej : j = 24 := by omega
                subst ej
                refine A.il2 eX5_dayOf_122 ?_
                refine A.iconst (v := -1) eX5_dayOf_123 (by decide) ?_
                refine A.icmp_ne eX5_dayOf_124 (fun yd2 => ?_) (fun yd2 => ?_)
                · exact absurd rfl yd2
                · refine A.il4 eX5_dayOf_127 ?_
                  refine A.goto eX5_dayOf_129 ?_
                  refine A.is5 eX5_dayOf_142 ?_
                  refine A.al0 eX5_dayOf_144 ?_
                  refine A.al0 eX5_dayOf_145 ?_
                  refine A.getI eX5_dayOf_146 fX5_142 ko42 ?_
                  refine A.top ((hF.1.cg e1.1).cg r1.fq).2.1.1 ?_
                  refine A.cVv1 eX5_dayOf_149 oX5_lives kX5_171 ko42 (lvG (b0 := xb x) ((hF.1.cg e1.1).cg r1.fq) (r1.rx e1.2) (fun p hp => ⟨by rw [r1.1 54 (by omega) (by omega) (by omega)]; exact e4 p hp, xb_le hp⟩) (fun ζ z1 z2 => ?_))
                  refine A.il5 eX5_dayOf_152 ?_
                  refine B.iret eX5_dayOf_154 ?_
                  exact hQ ζ (FM.mv hF ((e1.1.tr r1.fq).tr z1.fq) (z1.rx (r1.rx e1.2)) (fun p hp => by rw [z1.1 54 (by omega) (by omega) (by omega), r1.1 54 (by omega) (by omega) (by omega)]; exact e4 p hp) z2) ((e1.1.tr r1.fq).tr z1.fq)
              · refine A.il4 eX5_dayOf_96 ?_
                refine A.al0 eX5_dayOf_98 ?_
                refine A.getR eX5_dayOf_99 fX5_46 ko42 kr42_15 ?_
                refine A.il5 eX5_dayOf_102 ?_
                refine A.ialdN eX5_dayOf_104 ka55 ?_
                refine A.top (r2 j (by omega)).2 ?_
                have hf64 := flb_lt (aT x (dT x s) j) (bT x (dT x s) (xb x) j) (xp x) q6
                refine A.if_eqN eX5_dayOf_105 (fun yd1 => ?_) (fun yd1 => ?_)
                · refine A.iconst (v := nI 0) eX5_dayOf_112 (by decide) ?_
                  refine A.iaddN eX5_dayOf_113 ?_
                  refine A.is4 eX5_dayOf_114 ?_
                  refine A.inc5N eX5_dayOf_116 ?_
                  refine A.goto eX5_dayOf_119 ?_
                  first
                    | (have yq : (fun h => decide (lsS x (aT x (dT x s) h) (bT x (dT x s) (xb x) h) < xq x)) j = false := decide_eq_false (flb_z.mp yd1)
                       exact A.eq (by simp [cnt, yq]) rfl rfl (ihq (j + 1) (by omega) (by omega)))
                    | (have yq : (fun h => decide (lsS x (aT x (dT x s) h) (bT x (dT x s) (xb x) h) < xq x)) j = true := decide_eq_true (Decidable.byContradiction fun z => yd1 (flb_z.mpr z))
                       exact A.eq (by simp only [cnt, yq, if_true]) rfl rfl (ihq (j + 1) (by omega) (by omega)))
                · refine A.iconst (v := nI 1) eX5_dayOf_108 (by decide) ?_
                  refine A.goto eX5_dayOf_109 ?_
                  refine A.iaddN eX5_dayOf_113 ?_
                  refine A.is4 eX5_dayOf_114 ?_
                  refine A.inc5N eX5_dayOf_116 ?_
                  refine A.goto eX5_dayOf_119 ?_
                  first
                    | (have yq : (fun h => decide (lsS x (aT x (dT x s) h) (bT x (dT x s) (xb x) h) < xq x)) j = false := decide_eq_false (flb_z.mp yd1)
                       exact A.eq (by simp [cnt, yq]) rfl rfl (ihq (j + 1) (by omega) (by omega)))
                    | (have yq : (fun h => decide (lsS x (aT x (dT x s) h) (bT x (dT x s) (xb x) h) < xq x)) j = true := decide_eq_true (Decidable.byContradiction fun z => yd1 (flb_z.mpr z))
                       exact A.eq (by simp only [cnt, yq, if_true]) rfl rfl (ihq (j + 1) (by omega) (by omega)))
          exact lq 25 0 (by omega) (by omega)
        · refine A.al0 eX5_dayOf_29 ?_
          refine A.getR eX5_dayOf_30 fX5_28 ko42 kr42_8 ?_
          refine A.iconst (v := nI 1) eX5_dayOf_33 (by decide) ?_
          refine A.ialdN eX5_dayOf_34 ka49 ?_
          refine A.top e1.2.2.1 ?_
          refine A.topZ ?_
          refine A.if_leZ eX5_dayOf_35 (fun yx3 => ?_) (fun yx3 => ?_)
          · obtain ⟨gh, gp, gq, ag1, ag2⟩ := e6
            have ag3 : ∀ h, h < 24 → ∀ p, tlf gh gp gq ((xg x).1 + i) h p = dT x s h p := by
              intro g hg p
              rw [ag2 g p]
              unfold dT
              rcases e7 with z | z
              · rw [if_neg (by omega)]
                first
                  | rw [if_neg (fun w => by have := w.1; have := w.2.1; omega)]
                  | (exfalso; omega)
              · first
                  | (have e24 : i = 24 := by omega
                     by_cases w : p = u16 (nl (lts s g)) % xp x
                     · rw [if_pos ⟨by omega, w⟩, if_pos ⟨z.1, z.2, w⟩]
                     · rw [if_neg (fun v => w v.2), if_neg (fun v => w v.2.2)])
                  | (exfalso; omega)
            refine A.al0 eX5_dayOf_78 ?_
            refine A.il3 eX5_dayOf_79 ?_
            refine A.cVv1 eX5_dayOf_80 oX5_lives kX5_171 ko42 (lvT (x := x) (b0 := xb x) (T := dT x s) (hF.1.cg e1.1) e1.2 (by omega) ag1 ag3 (fun p hp => ⟨e4 p hp, xb_le hp⟩) (fun τ r1 r2 => ?_))
            refine A.iconst (v := nI 0) eX5_dayOf_83 (by decide) ?_
            refine A.is4 eX5_dayOf_84 ?_
            refine A.iconst (v := nI 0) eX5_dayOf_86 (by decide) ?_
            refine A.is5 eX5_dayOf_87 ?_
            have lq : ∀ (fu j : Nat), 24 - j < fu → j ≤ 24 → B G (r0 4 95) mX5_dayOf 89 [some (rf G 42), some (.int s), some (.int (-1)), some (.int (nI ((xg x).1 + i))), some (.int (nI (cnt (fun h => decide (lsS x (aT x (dT x s) h) (bT x (dT x s) (xb x) h) < xq x)) j))), some (.int (nI j))] [] (τ) (Pi K) := by
              intro fu
              induction fu with
              | zero => intro j  h1 h2; omega
              | succ fu ihq =>
                intro j  h1 h2 
                have hcj := cnt_le (fun h => decide (lsS x (aT x (dT x s) h) (bT x (dT x s) (xb x) h) < xq x)) j
                refine A.il5 eX5_dayOf_89 ?_
                refine A.bipush (v := nI 24) eX5_dayOf_91 (by decide) ?_
                refine A.icmp_geN eX5_dayOf_93 (fun c10 => ?_) (fun c10 => ?_)
                · have ej : j = 24 := by omega
                  subst ej
                  refine A.il2 eX5_dayOf_122 ?_
                  refine A.iconst (v := -1) eX5_dayOf_123 (by decide) ?_
                  refine A.icmp_ne eX5_dayOf_124 (fun yd2 => ?_) (fun yd2 => ?_)
                  · exact absurd rfl yd2
                  · refine A.il4 eX5_dayOf_127 ?_
                    refine A.goto eX5_dayOf_129 ?_
                    refine A.is5 eX5_dayOf_142 ?_
                    refine A.al0 eX5_dayOf_144 ?_
                    refine A.al0 eX5_dayOf_145 ?_
                    refine A.getI eX5_dayOf_146 fX5_142 ko42 ?_
                    refine A.top ((hF.1.cg e1.1).cg r1.fq).2.1.1 ?_
                    refine A.cVv1 eX5_dayOf_149 oX5_lives kX5_171 ko42 (lvG (b0 := xb x) ((hF.1.cg e1.1).cg r1.fq) (r1.rx e1.2) (fun p hp => ⟨by rw [r1.1 54 (by omega) (by omega) (by omega)]; exact e4 p hp, xb_le hp⟩) (fun ζ z1 z2 => ?_))
                    refine A.il5 eX5_dayOf_152 ?_
                    refine B.iret eX5_dayOf_154 ?_
                    exact hQ ζ (FM.mv hF ((e1.1.tr r1.fq).tr z1.fq) (z1.rx (r1.rx e1.2)) (fun p hp => by rw [z1.1 54 (by omega) (by omega) (by omega), r1.1 54 (by omega) (by omega) (by omega)]; exact e4 p hp) z2) ((e1.1.tr r1.fq).tr z1.fq)
                · refine A.il4 eX5_dayOf_96 ?_
                  refine A.al0 eX5_dayOf_98 ?_
                  refine A.getR eX5_dayOf_99 fX5_46 ko42 kr42_15 ?_
                  refine A.il5 eX5_dayOf_102 ?_
                  refine A.ialdN eX5_dayOf_104 ka55 ?_
                  refine A.top (r2 j (by omega)).2 ?_
                  have hf64 := flb_lt (aT x (dT x s) j) (bT x (dT x s) (xb x) j) (xp x) q6
                  refine A.if_eqN eX5_dayOf_105 (fun yd1 => ?_) (fun yd1 => ?_)
                  · refine A.iconst (v := nI 0) eX5_dayOf_112 (by decide) ?_
                    refine A.iaddN eX5_dayOf_113 ?_
                    refine A.is4 eX5_dayOf_114 ?_
                    refine A.inc5N eX5_dayOf_116 ?_
                    refine A.goto eX5_dayOf_119 ?_
                    first
                      | (have yq : (fun h => decide (lsS x (aT x (dT x s) h) (bT x (dT x s) (xb x) h) < xq x)) j = false := decide_eq_false (flb_z.mp yd1)
                         exact A.eq (by simp [cnt, yq]) rfl rfl (ihq (j + 1) (by omega) (by omega)))
                      | (have yq : (fun h => decide (lsS x (aT x (dT x s) h) (bT x (dT x s) (xb x) h) < xq x)) j = true := decide_eq_true (Decidable.byContradiction fun z => yd1 (flb_z.mpr z))
                         exact A.eq (by simp only [cnt, yq, if_true]) rfl rfl (ihq (j + 1) (by omega) (by omega)))
                  · refine A.iconst (v := nI 1) eX5_dayOf_108 (by decide) ?_
                    refine A.goto eX5_dayOf_109 ?_
                    refine A.iaddN eX5_dayOf_113 ?_
                    refine A.is4 eX5_dayOf_114 ?_
                    refine A.inc5N eX5_dayOf_116 ?_
                    refine A.goto eX5_dayOf_119 ?_
                    first
                      | (have yq : (fun h => decide (lsS x (aT x (dT x s) h) (bT x (dT x s) (xb x) h) < xq x)) j = false := decide_eq_false (flb_z.mp yd1)
                         exact A.eq (by simp [cnt, yq]) rfl rfl (ihq (j + 1) (by omega) (by omega)))
                      | (have yq : (fun h => decide (lsS x (aT x (dT x s) h) (bT x (dT x s) (xb x) h) < xq x)) j = true := decide_eq_true (Decidable.byContradiction fun z => yd1 (flb_z.mpr z))
                         exact A.eq (by simp only [cnt, yq, if_true]) rfl rfl (ihq (j + 1) (by omega) (by omega)))
            exact lq 25 0 (by omega) (by omega)
          · refine A.al0 eX5_dayOf_38 ?_
            refine A.al0 eX5_dayOf_39 ?_
            refine A.getR eX5_dayOf_40 fX5_28 ko42 kr42_8 ?_
            refine A.iconst (v := nI 0) eX5_dayOf_43 (by decide) ?_
            refine A.ialdN eX5_dayOf_44 ka49 ?_
            refine A.top e1.2.1 ?_
            refine A.cVi1 eX5_dayOf_45 oX5_lot kX5_269 ko42 (sX5_lot (m := xp x) (s := lts s i) (by omega) n8 e5 ?_)
            refine A.is5 eX5_dayOf_48 ?_
            refine A.al0 eX5_dayOf_50 ?_
            refine A.il3 eX5_dayOf_51 ?_
            refine A.il4 eX5_dayOf_52 ?_
            refine A.il5 eX5_dayOf_54 ?_
            refine A.al0 eX5_dayOf_56 ?_
            refine A.al0 eX5_dayOf_57 ?_
            refine A.getR eX5_dayOf_58 fX5_28 ko42 kr42_8 ?_
            refine A.iconst (v := nI 1) eX5_dayOf_61 (by decide) ?_
            refine A.ialdN eX5_dayOf_62 ka49 ?_
            refine A.top (show _ = nI (xq x) by rw [ur_n (by omega)]; exact e1.2.2.1) ?_
            refine A.cVi1 eX5_dayOf_63 oX5_lot kX5_269 ko42 (sX5_lot (m := xq x) (s := nl (lts s i)) (by omega) (by omega) (by rw [ur_s, upd_s]) ?_)
            refine A.cVv4 eX5_dayOf_66 oX5_goes kX5_145 ko42 (sX5_goes (k := (xg x).1 + i) (by omega) ?_)
            refine A.inc3N eX5_dayOf_69 ?_
            refine A.inc4N eX5_dayOf_72 ?_
            refine A.goto eX5_dayOf_75 ?_
            obtain ⟨gh, gp, gq, ag1, ag2⟩ := e6
            have hw8 : u16 (nl (lts s i)) % xp x < xp x := Nat.mod_lt _ (by omega)
            have hy6 : u16 (nl (nl (lts s i))) % xq x < xq x := Nat.mod_lt _ (by omega)
            have f1 : Fq (xg x).1 ρ (ur (ur ρ 42 (upd (ρ.1 42) 24 (nl (lts s i)))) 42 (upd ((ur ρ 42 (upd (ρ.1 42) 24 (nl (lts s i)))).1 42) 24 (nl (nl (lts s i))))) := ((Fq.rf _ ρ).u42 (Or.inr rfl)).u42 (Or.inr rfl)
            obtain ⟨gh', gp', gq', bg1, bg2⟩ := M3.go (σ := ur (ur ρ 42 (upd (ρ.1 42) 24 (nl (lts s i)))) 42 (upd ((ur ρ 42 (upd (ρ.1 42) 24 (nl (lts s i)))).1 42) 24 (nl (nl (lts s i))))) (a := i) (b := u16 (nl (lts s i)) % xp x) (c := u16 (nl (nl (lts s i))) % xq x) (by omega) (by omega) (by omega) (M3.cg (fun j _ => by rw [ur_n (by omega), ur_n (by omega)]) ag1) ag2
            refine A.eqw (by simp [wkL, Nat.add_assoc]) rfl rfl (ih (i + 1) _ (by omega) (by omega) ⟨(e1.1.tr f1).tr (g3_fq (Nat.le_add_right _ _)), RX.cg (by rw [g3_at.2.2.2.2 49 (by omega), ur_n (by omega), ur_n (by omega)]) (by rw [g3_at.2.2.2.2 50 (by omega), ur_n (by omega), ur_n (by omega)]) e1.2⟩ (fun p hp => by rw [g3_at.2.2.2.2 54 (by omega), ur_n (by omega), ur_n (by omega)]; exact e4 p hp) (by rw [g3_at.2.2.2.2 42 (by omega), ur_s, upd_s]; rfl) ⟨gh', gp', gq', bg1, fun g p => ?_⟩ (Or.inr ⟨by omega, by omega⟩))
            rw [show (xg x).1 + (i + 1) = (xg x).1 + i + 1 by omega, bg2 g p]
            by_cases z : g = i ∧ p = u16 (nl (lts s i)) % xp x
            · rw [if_pos z, if_pos ⟨by omega, by rw [z.1]; exact z.2⟩, z.1]
            · rw [if_neg z]
              by_cases w : g < i ∧ p = u16 (nl (lts s g)) % xp x
              · rw [if_pos w, if_pos ⟨by omega, w.2⟩]
              · rw [if_neg w, if_neg]
                intro v
                rcases Nat.lt_or_ge g i with t | t
                · exact w ⟨t, v.2⟩
                · have e : g = i := by omega
                  rw [e] at v
                  exact z ⟨e, v.2⟩
  exact A.eqw (by simp [wkL]) rfl rfl (lp 25 0 _ (by omega) (by omega) ⟨(Fq.rf _ σ).u42 (Or.inr rfl), RX.cg (ur_n (by omega)) (ur_n (by omega)) hF.2.1⟩ (fun p hp => by rw [ur_n (by omega)]; exact hF.2.2.1 p hp) (by rw [ur_s, upd_s]; rfl) ⟨_, _, _, M3.cg (fun j _ => by rw [ur_n (by omega)]) hF.1.2.1.2.2, fun g p => by rw [if_neg (by omega)]; rfl⟩ (Or.inl rfl))
set_option maxRecDepth 100000 in
set_option maxHeartbeats 4000000 in
theorem sX5_dayP {G : GW} {σ : St} {K : Int32 → St → Prop} {x : XS} {s : Int32} {p : Nat} (hM : MI x σ) (bp : p < xp x) (hQ : ∀ τ : St, MI (x) τ → Fm σ τ → K (Vday x s p) τ) : Ci G (r0 5 120) mX5_day [rf G 42, .int s, .int (nI p)] σ K := by
  refine Ci.of [some (rf G 42), some (.int s), some (.int (nI p))] ?_
  have n8 := hM.np8
  refine A.al0 eX5_day_0 ?_
  refine A.cVv0 eX5_day_1 oX5_find kX5_175 ko42 (sX5_find hM (fun τ g1 g2 => ?_))
  refine A.il2 eX5_day_4 ?_
  refine A.iconst (v := -1) eX5_day_5 (by decide) ?_
  refine A.icmp_eq eX5_day_6 (fun yd1 => ?_) (fun yd1 => ?_)
  · exact absurd yd1 (nI_nm1 (by omega))
  · refine A.al0 eX5_day_9 ?_
    refine A.il2 eX5_day_10 ?_
    refine A.cVi1 eX5_day_11 oX5_isPerson kX5_127 ko42 (sX5_isPerson (n := xp x) g1.2.1.1 (by omega) ?_)
    refine A.if_eqB eX5_day_14 (fun yd2 => ?_) (fun yd2 => ?_)
    · exact absurd ⟨by rw [nI_ti (by omega)]; omega, by rw [nI_ti (by omega)]; omega⟩ yd2
    · refine A.al0 eX5_day_17 ?_
      refine A.il1 eX5_day_18 ?_
      refine A.il2 eX5_day_19 ?_
      refine A.cVi2 eX5_day_20 oX5_dayOf kX5_272 ko42 (sX5_dayOfP g1 bp (fun τ3 g3 g4 => ?_))
      refine A.goto eX5_day_23 ?_
      refine B.iret eX5_day_28 ?_
      exact hQ τ3 g3.1 (g2.tr g4.1)
set_option maxRecDepth 100000 in
set_option maxHeartbeats 4000000 in
theorem sX5_dayN {G : GW} {σ : St} {K : Int32 → St → Prop} {x : XS} {s : Int32} (hM : MI x σ) (hQ : ∀ τ : St, MI (x) τ → Fm σ τ → K (VdayN x s) τ) : Ci G (r0 5 120) mX5_day [rf G 42, .int s, .int (-1)] σ K := by
  refine Ci.of [some (rf G 42), some (.int s), some (.int (-1))] ?_
  have n8 := hM.np8
  refine A.al0 eX5_day_0 ?_
  refine A.cVv0 eX5_day_1 oX5_find kX5_175 ko42 (sX5_find hM (fun τ g1 g2 => ?_))
  refine A.il2 eX5_day_4 ?_
  refine A.iconst (v := -1) eX5_day_5 (by decide) ?_
  refine A.icmp_eq eX5_day_6 (fun yd1 => ?_) (fun yd1 => ?_)
  · refine A.al0 eX5_day_17 ?_
    refine A.il1 eX5_day_18 ?_
    refine A.il2 eX5_day_19 ?_
    refine A.cVi2 eX5_day_20 oX5_dayOf kX5_272 ko42 (sX5_dayOfN g1 (fun τ3 g3 g4 => ?_))
    refine A.goto eX5_day_23 ?_
    refine B.iret eX5_day_28 ?_
    exact hQ τ3 g3.1 (g2.tr g4.1)
  · exact absurd rfl yd1
set_option maxRecDepth 100000 in
set_option maxHeartbeats 4000000 in
theorem bX5_day {G : GW} {σ : St} {K : Int32 → St → Prop} {x : XS} {s p : Int32} (hM : MI x σ) (h1 : ¬ p = -1) (hb : ¬ ck p (xp x)) (hQ : ∀ τ : St, MI (x) τ → Fm σ τ → K (-2) τ) : Ci G (r0 5 120) mX5_day [rf G 42, .int s, .int p] σ K := by
  refine Ci.of [some (rf G 42), some (.int s), some (.int p)] ?_
  have n8 := hM.np8
  refine A.al0 eX5_day_0 ?_
  refine A.cVv0 eX5_day_1 oX5_find kX5_175 ko42 (sX5_find hM (fun τ g1 g2 => ?_))
  refine A.il2 eX5_day_4 ?_
  refine A.iconst (v := -1) eX5_day_5 (by decide) ?_
  refine A.icmp_eq eX5_day_6 (fun yd1 => ?_) (fun yd1 => ?_)
  · exact absurd yd1 h1
  · refine A.al0 eX5_day_9 ?_
    refine A.il2 eX5_day_10 ?_
    refine A.cVi1 eX5_day_11 oX5_isPerson kX5_127 ko42 (sX5_isPerson (n := xp x) g1.2.1.1 (by omega) ?_)
    refine A.if_eqB eX5_day_14 (fun yd2 => ?_) (fun yd2 => ?_)
    · refine A.bipush (v := -2) eX5_day_26 (by decide) ?_
      refine B.iret eX5_day_28 ?_
      exact hQ τ g1.1 g2
    · exact absurd yd2 hb
theorem aX5_day {G : GW} {σ : St} {K : Int32 → St → Prop} {x : XS} {s p : Int32} (hM : MI x σ) (hQ : ∀ τ : St, MI (x) τ → Fm σ τ → K (Rday x s p) τ) : Ci G (r0 5 120) mX5_day [rf G 42, .int s, .int p] σ K := by
  have n8 := hM.np8
  unfold Rday at hQ
  by_cases h1 : p = -1
  · simp only [if_pos h1] at hQ
    subst h1
    exact sX5_dayN hM hQ
  · simp only [if_neg h1] at hQ
    by_cases hb : ck p (xp x)
    · simp only [if_pos hb] at hQ
      obtain ⟨p, bp, rfl⟩ := i_nat hb.1 hb.2
      simp only [nI_clamp (n := p) (by omega)] at hQ
      exact sX5_dayP hM bp hQ
    · simp only [if_neg hb] at hQ
      exact bX5_day hM h1 hb hQ
