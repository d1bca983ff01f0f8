theorem wgt_l {x : XS} {c i : Nat} : (if i &&& chg x = i then lN (c ^ pop i * (16 - c) ^ (pop (chg x) - pop i)) else 0) = lN (wgt x c i) := by
  unfold wgt
  split <;> rfl
theorem wgt_le {x : XS} {c i : Nat} (hc : c ≤ 16) : wgt x c i ≤ 4294967296 := by
  unfold wgt
  split
  · next hs =>
    have h1 : c ^ pop i ≤ 16 ^ pop i := Nat.pow_le_pow_left hc _
    have h2 : (16 - c) ^ (pop (chg x) - pop i) ≤ 16 ^ (pop (chg x) - pop i) := Nat.pow_le_pow_left (by omega) _
    have h3 := Nat.mul_le_mul h1 h2
    rw [← Nat.pow_add] at h3
    have hm := pop_mono hs
    have h8 := pop_le (chg x)
    have h4 : 16 ^ (pop i + (pop (chg x) - pop i)) ≤ 16 ^ 8 := Nat.pow_le_pow_right (by omega) (by omega)
    omega
  · omega
theorem nsum_le {x : XS} {c h q : Nat} (hc : c ≤ 16) : ∀ n, nsum x c h q n ≤ n * 4294967296 := by
  intro n
  induction n with
  | zero => exact Nat.le_refl _
  | succ n ih =>
    unfold nsum
    have hw := wgt_le (x := x) (i := n) hc
    rw [Nat.succ_mul]
    refine Nat.add_le_add ih ?_
    split
    · exact hw
    · exact Nat.zero_le _
theorem wgt_z {x : XS} {c i : Nat} (hc : c ≤ 16) : lg_cmp (lN (wgt x c i)) 0 = 0 ↔ wgt x c i = 0 := by
  have := wgt_le (x := x) (i := i) hc
  rw [lg0]
  exact pk_lEQ (b := 0) (by omega) (by omega)
theorem nsum_s {x : XS} {c h q i : Nat} (hm : nmet x i h q = true) : lN (nsum x c h q i) + lN (wgt x c i) = lN (nsum x c h q (i + 1)) := by
  show _ = lN (nsum x c h q i + _)
  rw [if_pos hm, lN_add]
theorem nsum_n {x : XS} {c h q i : Nat} (hm : ¬ nmet x i h q = true) : lN (nsum x c h q i) + 0 = lN (nsum x c h q (i + 1)) := by
  show _ = lN (nsum x c h q i + _)
  rw [if_neg hm, Nat.add_zero, Int64.add_zero]
theorem nsum_0 {x : XS} {c h q i : Nat} (hm : wgt x c i = 0) : lN (nsum x c h q i) = lN (nsum x c h q (i + 1)) := by
  show _ = lN (nsum x c h q i + _)
  rw [hm]
  split <;> rfl
theorem bits_and (f g : Nat → Bool) (n : Nat) : bits f n &&& bits g n = bits (fun k => f k && g k) n := by
  apply Nat.eq_of_testBit_eq
  intro i
  rw [Nat.testBit_and, bits_tb, bits_tb, bits_tb]
  cases decide (i < n) <;> simp
def rfF (x : XS) (c q g m : Nat) : Bool := decide (wgt x c m = 0) || nmet x m g q
def rfb (x : XS) (c q h i : Nat) : Nat := bits (fun g => decide (h ≤ g) && alls (rfF x c q g) i) 24
theorem rfb_lt (x : XS) (c q h i : Nat) : rfb x c q h i < 16777216 := bits_lt _ 24
theorem rf_start : ∀ h, h < 24 → ((16777215 : Int32) >>> (nI h &&& 31)) <<< (nI h &&& 31) = nI (bits (fun g => decide (h ≤ g) && true) 24) := by decide +kernel
theorem rfb_0 {x : XS} {c q h i : Nat} (hw : wgt x c i = 0) : rfb x c q h (i + 1) = rfb x c q h i := by
  unfold rfb
  apply bits_congr
  intro g _
  congr 1
  simp [alls, rfF, hw]
theorem rfb_s {x : XS} {c q h i : Nat} (hw : ¬ wgt x c i = 0) : rfb x c q h i &&& bits (fun g => nmet x i g q) 24 = rfb x c q h (i + 1) := by
  unfold rfb
  rw [bits_and]
  apply bits_congr
  intro g _
  simp [alls, rfF, hw, Bool.and_assoc]
theorem rfb_end {x : XS} {c q h g : Nat} (hg : g < 24) (hh : h ≤ g) : inb (rfb x c q h (2 ^ xp x)) g = surex x c q g := by
  unfold rfb
  rw [inb_bits]
  simp [hg, hh]
  rfl
theorem rfb_none {x : XS} {c q h i g : Nat} (hi : i ≤ 2 ^ xp x) (hz : rfb x c q h i = 0) (hg : g < 24) (hh : h ≤ g) : inb (rfb x c q h i) g = surex x c q g := by
  have h1 := (bits_zero.mp hz) g hg
  simp [hh] at h1
  have h2 : surex x c q g = false := by
    cases e : surex x c q g with
    | false => rfl
    | true =>
      have h3 := alls_of.mp e
      have h4 : alls (rfF x c q g) i = true := alls_of.mpr (fun k hk => h3 k (by omega))
      rw [h4] at h1
      cases h1
  rw [h2, hz]
  unfold inb
  simp
def Rnews (x : XS) (c q h w : Int32) : Int64 := if ck c 17 ∧ ck q (xq x) ∧ ck h 24 ∧ ck w 2 then Vnews x c.toNatClampNeg q.toNatClampNeg h.toNatClampNeg w.toNatClampNeg else LL - (-2 : Int32).toInt64
set_option maxRecDepth 100000 in
set_option maxHeartbeats 4000000 in
theorem sX4_news {G : GW} {σ : St} {K : Int64 → St → Prop} {x : XS} {c q h w : Nat} (hC : CI x σ) (bc : c < 17) (bq : q < (xq x)) (bh : h < 24) (bw : w < 2) (hQ : ∀ τ : St, CI x τ → Fi 0 41 σ τ → K (Vnews x c q h w) τ) : Cl G (r0 3 67) mX4_news [rf G 0, .int (nI c), .int (nI q), .int (nI h), .int (nI w)] σ K := by
  refine Cl.of [some (rf G 0), some (.int (nI c)), some (.int (nI q)), some (.int (nI h)), some (.int (nI w)), none, none, none, none, none, none] ?_
  have n8 := hC.np8
  have q6 := hC.nq6
  refine A.il1 eX4_news_0 ?_
  refine A.bipush (v := nI 17) eX4_news_1 (by decide) ?_
  refine A.cSi2 eX4_news_3 oX4_isBelow kX4_67 (sX4_isBelowIN (b := 17) (by omega) ?_)
  refine A.if_eqB eX4_news_6 (fun c1 => ?_) (fun c1 => ?_)
  · exact absurd ⟨by rw [nI_ti (by omega)]; omega, by rw [nI_ti (by omega)]; omega⟩ c1
  · refine A.al0 eX4_news_9 ?_
    refine A.il2 eX4_news_10 ?_
    refine A.cVi1 eX4_news_11 oX4_isPlace kX4_98 ko0 (sX4_isPlace hC.nq hC.nq6 ?_)
    refine A.if_eqB eX4_news_14 (fun c2 => ?_) (fun c2 => ?_)
    · exact absurd ⟨by rw [nI_ti (by omega)]; omega, by rw [nI_ti (by omega)]; omega⟩ c2
    · refine A.il3 eX4_news_17 ?_
      refine A.cSi1 eX4_news_18 oX4_isHour kX4_134 (sX4_isHour ?_)
      refine A.if_eqB eX4_news_21 (fun c3 => ?_) (fun c3 => ?_)
      · exact absurd ⟨by rw [nI_ti (by omega)]; omega, by rw [nI_ti (by omega)]; omega⟩ c3
      · refine A.il4 eX4_news_24 ?_
        refine A.iconst (v := nI 2) eX4_news_26 (by decide) ?_
        refine A.cSi2 eX4_news_27 oX4_isBelow kX4_67 (sX4_isBelowIN (b := 2) (by omega) ?_)
        refine A.if_neB eX4_news_30 (fun c4 => ?_) (fun c4 => ?_)
        · refine A.al0 eX4_news_39 ?_
          refine A.cVi0 eX4_news_40 oX4_changingPersons kX4_217 ko0 (sX4_changingPersons (kd := xk x) hC.np n8 hC.k ?_)
          refine A.top (show _ = nI (chg x) from rfl) ?_
          have h2p : 2 ^ xp x ≤ 2 ^ 8 := Nat.pow_le_pow_right (by omega) n8
          have hch : chg x < 256 := Nat.lt_of_lt_of_le (bits_lt _ _) h2p
          have hc6 : c ≤ 16 := by omega
          refine A.is5 eX4_news_43 ?_
          refine A.lconst (v := 0) eX4_news_45 (by decide) ?_
          refine A.ls6 eX4_news_46 ?_
          refine A.al0 eX4_news_48 ?_
          refine A.getR eX4_news_49 fX4_52 ko0 kr0_7 ?_
          refine A.il3 eX4_news_52 ?_
          refine A.cVv1 eX4_news_53 oX3_open kX4_198 ko36 (sX3_open (v := 36) (la := h) (Or.inr rfl) (by omega) hC.np n8 hC.go (fun τ a1 a2 a3 a4 => ?_))
          refine A.al0 eX4_news_56 ?_
          refine A.getR eX4_news_57 fX4_52 ko0 kr0_7 ?_
          refine A.cVv0 eX4_news_60 oX3_walk kX4_201 ko36 (sX3_walk (v := 36) (la := h) (nq := xq x) (Or.inr rfl) a2 (by omega) (by rw [a1.1 1 (by omega)]; exact hC.np) n8 (by rw [a1.1 5 (by omega)]; exact hC.nq) q6 (fun τ2 b1 b2 => ?_))
          refine A.iconst (v := nI 0) eX4_news_63 (by decide) ?_
          refine A.is8 eX4_news_64 ?_
          have lp : ∀ (fu i : Nat) (ξ : St), 2 ^ xp x - i < fu → i ≤ 2 ^ xp x → Fi 36 41 σ ξ → ξ.1 36 8 = nI h → (∀ a p, a ≤ h → p < xp x → ξ.1 (36 + 1) (a * 8 + p) = xa x a p) → B G (r0 3 67) mX4_news 66 [some (rf G 0), some (.int (nI c)), some (.int (nI q)), some (.int (nI h)), some (.int (nI w)), some (.int (nI (chg x))), some (.long (lN (nsum x c h q i))), none, some (.int (nI i)), none, none] [] (ξ) (Pl K) := by
            intro fu
            induction fu with
            | zero => intro i ξ h1 h2; omega
            | succ fu ih =>
              intro i ξ h1 h2 e1 e2 e3
              refine A.il8 eX4_news_66 ?_
              refine A.iconst (v := nI 1) eX4_news_68 (by decide) ?_
              refine A.al0 eX4_news_69 ?_
              refine A.getR eX4_news_70 fX4_14 ko0 kr0_0 ?_
              refine A.getI eX4_news_73 fX4_167 ko1 ?_
              refine A.top (show ξ.1 1 5 = nI (xp x) by rw [e1.1 1 (by omega)]; exact hC.np) ?_
              refine A.ishl1 eX4_news_76 ?_
              refine A.icmp_geN eX4_news_77 (fun c5 => ?_) (fun c5 => ?_)
              · refine A.ll6 eX4_news_139 ?_
                refine A.bipush (v := nI 16) eX4_news_141 (by decide) ?_
                refine A.il5 eX4_news_143 ?_
                refine A.cSi1 eX4_news_145 oJ6_bitCount_0f7a4 kX4_158 (sJ6_bitCount_0f7a4 hch ?_)
                have hp8 := pop_le (chg x)
                have h16 : 16 ^ pop (chg x) ≤ 16 ^ 8 := Nat.pow_le_pow_right (by omega) hp8
                have hns := nsum_le (x := x) (h := h) (q := q) hc6 i
                refine A.cSl2 eX4_news_148 oX4_powerOf kX4_228 (sX4_powerOf (by omega) (by omega) ?_)
                refine A.il4 eX4_news_151 ?_
                refine A.cSl3 eX4_news_153 oX4_partOfFraction kX4_163 (sX4_partOfFraction (a := nsum x c h q i) (d := 16 ^ pop (chg x)) (by omega) (by omega) (Nat.pow_pos (by omega)) bw ?_)
                refine B.lret eX4_news_156 ?_
                have e : i = 2 ^ xp x := by omega
                subst e
                exact hQ ξ (hC.scr e1) (e1.mo (by omega) (by omega))
              · refine A.il1 eX4_news_80 ?_
                refine A.il8 eX4_news_81 ?_
                refine A.il5 eX4_news_83 ?_
                refine A.cSl3 eX4_news_85 oX4_weightOf kX4_221 (sX4_weightOf (by omega) (by omega) hch ?_)
                refine A.topl wgt_l ?_
                refine A.ls9 eX4_news_88 ?_
                refine A.ll9 eX4_news_90 ?_
                refine A.lconst (v := 0) eX4_news_92 (by decide) ?_
                refine A.lcmp eX4_news_93 ?_
                refine A.if_eq eX4_news_94 (fun yd1 => ?_) (fun yd1 => ?_)
                · refine A.inc8N eX4_news_133 ?_
                  refine A.goto eX4_news_136 ?_
                  exact A.eqw (by rw [nsum_0 ((wgt_z hc6).mp yd1)]; simp [wkL]) rfl rfl (ih (i + 1) ξ (by omega) (by omega) e1 e2 e3)
                · refine A.al0 eX4_news_97 ?_
                  refine A.il8 eX4_news_98 ?_
                  refine A.cVv1 eX4_news_100 oX4_tellBadNews kX4_225 ko0 (sX4_tellBadNews (np := xp x) (b0 := xb x) (m := i) (show ξ.1 1 5 = nI (xp x) by rw [e1.1 1 (by omega)]; exact hC.np) n8 (fun p hp => ⟨by rw [e1.1 3 (by omega)]; exact (hC.b p hp).1, (hC.b p hp).2⟩) (by omega) (fun τ4 t1 t2 => ?_))
                  have f1 : Fi 36 41 σ τ4 := e1.tr (t1.mo (by omega) (by omega))
                  refine A.al0 eX4_news_103 ?_
                  refine A.getR eX4_news_104 fX4_52 ko0 kr0_7 ?_
                  refine A.cVv0 eX4_news_107 oX3_live kX4_207 ko36 (sX3_live (v := 36) (la := h) (nq := xq x) (a := aT x (xT x)) (b0 := nb x i) (kd := xk x) (Or.inr rfl) (by rw [t1.1 36 (by omega)]; exact e2) (by omega) (by rw [f1.1 1 (by omega)]; exact hC.np) n8 (by rw [f1.1 5 (by omega)]; exact hC.nq) q6 (fun a q ha hq => by rw [t1.1 (36 + 1) (by omega)]; exact e3 a q ha hq) (fun h _ => plf_PA) (fun p hp => ⟨t2 p hp, by have := xb_le hp; unfold nb; split <;> omega⟩) (fun p hp => ⟨by rw [f1.1 4 (by omega)]; exact (hC.k p hp).1, (hC.k p hp).2⟩) (fun τ3 m1 m2 => ?_))
                  have f2 : Fi 36 41 σ τ3 := f1.tr (m1.mo (by omega) (by omega))
                  refine A.ll6 eX4_news_110 ?_
                  refine A.al0 eX4_news_112 ?_
                  refine A.getR eX4_news_113 fX4_52 ko0 kr0_7 ?_
                  refine A.il3 eX4_news_116 ?_
                  refine A.il2 eX4_news_117 ?_
                  refine A.cVi2 eX4_news_118 oX3_isMet kX4_170 ko36 (sX3_isMet (v := 36) (Or.inr rfl) bh (by rw [f2.1 1 (by omega)]; exact hC.np) n8 (m2 h (Nat.le_refl h)) (by rw [f2.1 7 (by omega)]; exact hC.lo q bq) (xlo_le bq) (by rw [f2.1 8 (by omega)]; exact hC.hi q bq) (xhi_le bq) (by omega) ?_)
                  refine A.top (show _ = bI (nmet x i h q = true) from rfl) ?_
                  refine A.if_eqB eX4_news_121 (fun yd2 => ?_) (fun yd2 => ?_)
                  · refine A.lconst (v := 0) eX4_news_129 (by decide) ?_
                    refine A.ladd eX4_news_130 ?_
                    refine A.ls6 eX4_news_131 ?_
                    refine A.inc8N eX4_news_133 ?_
                    refine A.goto eX4_news_136 ?_
                    first
                      | exact A.eqw (by rw [nsum_s yd2]; simp [wkL]) rfl rfl (ih (i + 1) τ3 (by omega) (by omega) f2 (by rw [m1.1 36 (by omega), t1.1 36 (by omega)]; exact e2) (fun a q ha hq => by rw [m1.1 (36 + 1) (by omega), t1.1 (36 + 1) (by omega)]; exact e3 a q ha hq))
                      | exact A.eqw (by rw [nsum_n yd2]; simp [wkL]) rfl rfl (ih (i + 1) τ3 (by omega) (by omega) f2 (by rw [m1.1 36 (by omega), t1.1 36 (by omega)]; exact e2) (fun a q ha hq => by rw [m1.1 (36 + 1) (by omega), t1.1 (36 + 1) (by omega)]; exact e3 a q ha hq))
                  · refine A.ll9 eX4_news_124 ?_
                    refine A.goto eX4_news_126 ?_
                    refine A.ladd eX4_news_130 ?_
                    refine A.ls6 eX4_news_131 ?_
                    refine A.inc8N eX4_news_133 ?_
                    refine A.goto eX4_news_136 ?_
                    first
                      | exact A.eqw (by rw [nsum_s yd2]; simp [wkL]) rfl rfl (ih (i + 1) τ3 (by omega) (by omega) f2 (by rw [m1.1 36 (by omega), t1.1 36 (by omega)]; exact e2) (fun a q ha hq => by rw [m1.1 (36 + 1) (by omega), t1.1 (36 + 1) (by omega)]; exact e3 a q ha hq))
                      | exact A.eqw (by rw [nsum_n yd2]; simp [wkL]) rfl rfl (ih (i + 1) τ3 (by omega) (by omega) f2 (by rw [m1.1 36 (by omega), t1.1 36 (by omega)]; exact e2) (fun a q ha hq => by rw [m1.1 (36 + 1) (by omega), t1.1 (36 + 1) (by omega)]; exact e3 a q ha hq))
          exact A.eqw (by simp [wkL, nsum]; rfl) rfl rfl (lp (2 ^ xp x + 1) 0 τ2 (Nat.lt_succ_of_le (Nat.sub_le _ _)) (Nat.zero_le _) ((a1.mo (by omega) (by omega)).tr (b1.mo (by omega) (by omega))) (by rw [b1.1 36 (by omega)]; exact a2) (fun a p ha hp => by rw [b2 a p ha hp]; exact plf_eq (la := h) (np := xp x) (fun a p ha hp => a3 a p ha (by omega)) ha hp))
        · exact absurd ⟨by rw [nI_ti (by omega)]; omega, by rw [nI_ti (by omega)]; omega⟩ c4
set_option maxRecDepth 100000 in
set_option maxHeartbeats 4000000 in
theorem bX4_news {G : GW} {σ : St} {K : Int64 → St → Prop} {x : XS} {c q h w : Int32} (hC : CI x σ) (hb : ¬ (ck c 17 ∧ ck q (xq x) ∧ ck h 24 ∧ ck w 2)) (hQ : K (LL - (-2 : Int32).toInt64) σ) : Cl G (r0 3 67) mX4_news [rf G 0, .int c, .int q, .int h, .int w] σ K := by
  refine Cl.of [some (rf G 0), some (.int c), some (.int q), some (.int h), some (.int w), none, none, none, none, none, none] ?_
  have n8 := hC.np8
  have q6 := hC.nq6
  refine A.il1 eX4_news_0 ?_
  refine A.bipush (v := nI 17) eX4_news_1 (by decide) ?_
  refine A.cSi2 eX4_news_3 oX4_isBelow kX4_67 (sX4_isBelowIN (b := 17) (by omega) ?_)
  refine A.if_eqB eX4_news_6 (fun c1 => ?_) (fun c1 => ?_)
  · refine A.bipush (v := -2) eX4_news_33 (by decide) ?_
    refine A.cSl1 eX4_news_35 oX4_refusedLong kX4_151 (sX4_refusedLong ?_)
    refine B.lret eX4_news_38 ?_
    exact hQ
  · refine A.al0 eX4_news_9 ?_
    refine A.il2 eX4_news_10 ?_
    refine A.cVi1 eX4_news_11 oX4_isPlace kX4_98 ko0 (sX4_isPlace hC.nq hC.nq6 ?_)
    refine A.if_eqB eX4_news_14 (fun c2 => ?_) (fun c2 => ?_)
    · refine A.bipush (v := -2) eX4_news_33 (by decide) ?_
      refine A.cSl1 eX4_news_35 oX4_refusedLong kX4_151 (sX4_refusedLong ?_)
      refine B.lret eX4_news_38 ?_
      exact hQ
    · refine A.il3 eX4_news_17 ?_
      refine A.cSi1 eX4_news_18 oX4_isHour kX4_134 (sX4_isHour ?_)
      refine A.if_eqB eX4_news_21 (fun c3 => ?_) (fun c3 => ?_)
      · refine A.bipush (v := -2) eX4_news_33 (by decide) ?_
        refine A.cSl1 eX4_news_35 oX4_refusedLong kX4_151 (sX4_refusedLong ?_)
        refine B.lret eX4_news_38 ?_
        exact hQ
      · refine A.il4 eX4_news_24 ?_
        refine A.iconst (v := nI 2) eX4_news_26 (by decide) ?_
        refine A.cSi2 eX4_news_27 oX4_isBelow kX4_67 (sX4_isBelowIN (b := 2) (by omega) ?_)
        refine A.if_neB eX4_news_30 (fun c4 => ?_) (fun c4 => ?_)
        · exact absurd ⟨c1, c2, c3, c4⟩ hb
        · refine A.bipush (v := -2) eX4_news_33 (by decide) ?_
          refine A.cSl1 eX4_news_35 oX4_refusedLong kX4_151 (sX4_refusedLong ?_)
          refine B.lret eX4_news_38 ?_
          exact hQ
theorem aX4_news {G : GW} {σ : St} {K : Int64 → St → Prop} {x : XS} {c q h w : Int32} (hC : CI x σ) (hQ : ∀ τ : St, CI x τ → Fi 0 41 σ τ → K (Rnews x c q h w) τ) : Cl G (r0 3 67) mX4_news [rf G 0, .int c, .int q, .int h, .int w] σ K := by
  have n8 := hC.np8
  have q6 := hC.nq6
  by_cases hb : ck c 17 ∧ ck q (xq x) ∧ ck h 24 ∧ ck w 2
  · have hR : Rnews x c q h w = _ := if_pos hb
    rw [hR] at hQ
    obtain ⟨c, bc, rfl⟩ := i_nat hb.1.1 hb.1.2
    obtain ⟨q, bq, rfl⟩ := i_nat hb.2.1.1 hb.2.1.2
    obtain ⟨h, bh, rfl⟩ := i_nat hb.2.2.1.1 hb.2.2.1.2
    obtain ⟨w, bw, rfl⟩ := i_nat hb.2.2.2.1 hb.2.2.2.2
    simp only [nI_clamp (n := c) (by omega), nI_clamp (n := q) (by omega), nI_clamp (n := h) (by omega), nI_clamp (n := w) (by omega)] at hQ
    exact sX4_news hC bc bq bh bw hQ
  · have hR : Rnews x c q h w = _ := if_neg hb
    rw [hR] at hQ
    exact bX4_news hC hb (hQ σ hC (Fi.rf _ _ _))
def Rroof (x : XS) (c q h : Int32) : Int32 := if ck c 17 ∧ ck q (xq x) ∧ ck h 24 then Vroof x c.toNatClampNeg q.toNatClampNeg h.toNatClampNeg else -2
set_option maxRecDepth 100000 in
set_option maxHeartbeats 4000000 in
theorem sX4_roof {G : GW} {σ : St} {K : Int32 → St → Prop} {x : XS} {c q h : Nat} (hC : CI x σ) (bc : c < 17) (bq : q < (xq x)) (bh : h < 24) (hQ : ∀ τ : St, CI x τ → Fi 0 41 σ τ → K (Vroof x c q h) τ) : Ci G (r0 4 90) mX4_roof [rf G 0, .int (nI c), .int (nI q), .int (nI h)] σ K := by
  refine Ci.of [some (rf G 0), some (.int (nI c)), some (.int (nI q)), some (.int (nI h)), none, none, none] ?_
  have n8 := hC.np8
  have q6 := hC.nq6
  refine A.il1 eX4_roof_0 ?_
  refine A.bipush (v := nI 17) eX4_roof_1 (by decide) ?_
  refine A.cSi2 eX4_roof_3 oX4_isBelow kX4_67 (sX4_isBelowIN (b := 17) (by omega) ?_)
  refine A.if_eqB eX4_roof_6 (fun c1 => ?_) (fun c1 => ?_)
  · exact absurd ⟨by rw [nI_ti (by omega)]; omega, by rw [nI_ti (by omega)]; omega⟩ c1
  · refine A.al0 eX4_roof_9 ?_
    refine A.il2 eX4_roof_10 ?_
    refine A.cVi1 eX4_roof_11 oX4_isPlace kX4_98 ko0 (sX4_isPlace hC.nq hC.nq6 ?_)
    refine A.if_eqB eX4_roof_14 (fun c2 => ?_) (fun c2 => ?_)
    · exact absurd ⟨by rw [nI_ti (by omega)]; omega, by rw [nI_ti (by omega)]; omega⟩ c2
    · refine A.il3 eX4_roof_17 ?_
      refine A.cSi1 eX4_roof_18 oX4_isHour kX4_134 (sX4_isHour ?_)
      refine A.if_neB eX4_roof_21 (fun c3 => ?_) (fun c3 => ?_)
      · refine A.al0 eX4_roof_27 ?_
        refine A.cVi0 eX4_roof_28 oX4_changingPersons kX4_217 ko0 (sX4_changingPersons (kd := xk x) hC.np n8 hC.k ?_)
        refine A.top (show _ = nI (chg x) from rfl) ?_
        have h2p : 2 ^ xp x ≤ 2 ^ 8 := Nat.pow_le_pow_right (by omega) n8
        have hch : chg x < 256 := Nat.lt_of_lt_of_le (bits_lt _ _) h2p
        have hc6 : c ≤ 16 := by omega
        refine A.is4 eX4_roof_31 ?_
        refine A.ldc eX4_roof_33 nX4_232 ?_
        refine A.il3 eX4_roof_35 ?_
        refine A.ishr eX4_roof_36 ?_
        refine A.il3 eX4_roof_37 ?_
        refine A.ishl eX4_roof_38 ?_
        refine A.top (rf_start h bh) ?_
        refine A.is5 eX4_roof_39 ?_
        refine A.al0 eX4_roof_41 ?_
        refine A.getR eX4_roof_42 fX4_52 ko0 kr0_7 ?_
        refine A.bipush (v := nI 23) eX4_roof_45 (by decide) ?_
        refine A.cVv1 eX4_roof_47 oX3_open kX4_198 ko36 (sX3_open (v := 36) (la := 23) (Or.inr rfl) (by omega) hC.np n8 hC.go (fun τ a1 a2 a3 a4 => ?_))
        refine A.al0 eX4_roof_50 ?_
        refine A.getR eX4_roof_51 fX4_52 ko0 kr0_7 ?_
        refine A.cVv0 eX4_roof_54 oX3_walk kX4_201 ko36 (sX3_walk (v := 36) (la := 23) (nq := xq x) (Or.inr rfl) a2 (by omega) (by rw [a1.1 1 (by omega)]; exact hC.np) n8 (by rw [a1.1 5 (by omega)]; exact hC.nq) q6 (fun τ2 b1 b2 => ?_))
        refine A.iconst (v := nI 0) eX4_roof_57 (by decide) ?_
        refine A.is6 eX4_roof_58 ?_
        have lp : ∀ (fu i : Nat) (ξ : St), 2 ^ xp x - i < fu → i ≤ 2 ^ xp x → Fi 36 41 σ ξ → ξ.1 36 8 = nI 23 → (∀ a p, a ≤ 23 → p < xp x → ξ.1 (36 + 1) (a * 8 + p) = xa x a p) → B G (r0 4 90) mX4_roof 60 [some (rf G 0), some (.int (nI c)), some (.int (nI q)), some (.int (nI h)), some (.int (nI (chg x))), some (.int (nI (rfb x c q h i))), some (.int (nI i))] [] (ξ) (Pi K) := by
          intro fu
          induction fu with
          | zero => intro i ξ h1 h2; omega
          | succ fu ih =>
            intro i ξ h1 h2 e1 e2 e3
            have hr24 := rfb_lt x c q h i
            refine A.il6 eX4_roof_60 ?_
            refine A.iconst (v := nI 1) eX4_roof_62 (by decide) ?_
            refine A.al0 eX4_roof_63 ?_
            refine A.getR eX4_roof_64 fX4_14 ko0 kr0_0 ?_
            refine A.getI eX4_roof_67 fX4_167 ko1 ?_
            refine A.top (show ξ.1 1 5 = nI (xp x) by rw [e1.1 1 (by omega)]; exact hC.np) ?_
            refine A.ishl1 eX4_roof_70 ?_
            refine A.icmp_geN eX4_roof_71 (fun yl1 => ?_) (fun yl1 => ?_)
            · have hS : ∀ g, g < 24 → h ≤ g → inb (rfb x c q h i) g = surex x c q g := fun g hg hh => by rw [show i = 2 ^ xp x by omega]; exact rfb_end hg hh
              refine A.il3 eX4_roof_124 ?_
              refine A.is6 eX4_roof_125 ?_
              have lq : ∀ (fu j : Nat), 24 - j < fu → h ≤ j ∧ j ≤ 24 → (∀ g, h ≤ g → g < j → surex x c q g = false) → B G (r0 4 90) mX4_roof 127 [some (rf G 0), some (.int (nI c)), some (.int (nI q)), some (.int (nI h)), some (.int (nI (chg x))), some (.int (nI (rfb x c q h i))), some (.int (nI j))] [] (ξ) (Pi K) := by
                intro fu
                induction fu with
                | zero => intro j  h1 h2; omega
                | succ fu ih2 =>
                  intro j  h1 h2 hgs
                  refine A.il6 eX4_roof_127 ?_
                  refine A.bipush (v := nI 24) eX4_roof_129 (by decide) ?_
                  refine A.icmp_geN eX4_roof_131 (fun c5 => ?_) (fun c5 => ?_)
                  · refine A.iconst (v := -1) eX4_roof_154 (by decide) ?_
                    refine B.iret eX4_roof_155 ?_
                    have e : ffst (fun k => surex x c q (h + k)) (24 - h) = 24 - h := ffst_none (fun k hk => hgs (h + k) (by omega) (by omega))
                    refine vl_of (hQ ξ (hC.scr e1) (e1.mo (by omega) (by omega))) ?_
                    unfold Vroof
                    rw [e, if_neg (by omega)]
                  · refine A.il5 eX4_roof_134 ?_
                    refine A.il6 eX4_roof_136 ?_
                    have hrj := @Nat.and_le_right (rfb x c q h i / 2 ^ j) 1
                    refine A.ishrN eX4_roof_138 ?_
                    refine A.iconst (v := nI 1) eX4_roof_139 (by decide) ?_
                    refine A.iandN eX4_roof_140 ?_
                    refine A.iconst (v := nI 1) eX4_roof_141 (by decide) ?_
                    refine A.icmp_neN eX4_roof_142 (fun yd5 => ?_) (fun yd5 => ?_)
                    · refine A.inc6N eX4_roof_148 ?_
                      refine A.goto eX4_roof_151 ?_
                      refine ih2 (j + 1) (by omega) (by omega) (fun g hg hj => ?_)
                      rcases Nat.lt_or_ge g j with z | z
                      · exact hgs g hg z
                      · rw [show g = j by omega, ← hS j (by omega) (by omega)]; exact inb_f yd5
                    · refine A.il6 eX4_roof_145 ?_
                      refine B.iret eX4_roof_147 ?_
                      have hs : surex x c q j = true := by rw [← hS j (by omega) (by omega)]; exact inb_t yd5
                      have e : ffst (fun k => surex x c q (h + k)) (24 - h) = j - h := ffst_first (fun k hk => hgs (h + k) (by omega) (by omega)) (by omega) (show surex x c q (h + (j - h)) = true by rw [show h + (j - h) = j by omega]; exact hs)
                      refine vl_of (hQ ξ (hC.scr e1) (e1.mo (by omega) (by omega))) ?_
                      unfold Vroof
                      rw [e, if_pos (by omega), show h + (j - h) = j by omega]
              exact lq 25 h (by omega) (by omega) (fun g a b => by omega)
            · refine A.il5 eX4_roof_74 ?_
              refine A.if_eqN eX4_roof_76 (fun yl2 => ?_) (fun yl2 => ?_)
              · have hS : ∀ g, g < 24 → h ≤ g → inb (rfb x c q h i) g = surex x c q g := fun g hg hh => rfb_none (by omega) yl2 hg hh
                refine A.il3 eX4_roof_124 ?_
                refine A.is6 eX4_roof_125 ?_
                have lq : ∀ (fu j : Nat), 24 - j < fu → h ≤ j ∧ j ≤ 24 → (∀ g, h ≤ g → g < j → surex x c q g = false) → B G (r0 4 90) mX4_roof 127 [some (rf G 0), some (.int (nI c)), some (.int (nI q)), some (.int (nI h)), some (.int (nI (chg x))), some (.int (nI (rfb x c q h i))), some (.int (nI j))] [] (ξ) (Pi K) := by
                  intro fu
                  induction fu with
                  | zero => intro j  h1 h2; omega
                  | succ fu ih2 =>
                    intro j  h1 h2 hgs
                    refine A.il6 eX4_roof_127 ?_
                    refine A.bipush (v := nI 24) eX4_roof_129 (by decide) ?_
                    refine A.icmp_geN eX4_roof_131 (fun c8 => ?_) (fun c8 => ?_)
                    · refine A.iconst (v := -1) eX4_roof_154 (by decide) ?_
                      refine B.iret eX4_roof_155 ?_
                      have e : ffst (fun k => surex x c q (h + k)) (24 - h) = 24 - h := ffst_none (fun k hk => hgs (h + k) (by omega) (by omega))
                      refine vl_of (hQ ξ (hC.scr e1) (e1.mo (by omega) (by omega))) ?_
                      unfold Vroof
                      rw [e, if_neg (by omega)]
                    · refine A.il5 eX4_roof_134 ?_
                      refine A.il6 eX4_roof_136 ?_
                      have hrj := @Nat.and_le_right (rfb x c q h i / 2 ^ j) 1
                      refine A.ishrN eX4_roof_138 ?_
                      refine A.iconst (v := nI 1) eX4_roof_139 (by decide) ?_
                      refine A.iandN eX4_roof_140 ?_
                      refine A.iconst (v := nI 1) eX4_roof_141 (by decide) ?_
                      refine A.icmp_neN eX4_roof_142 (fun yd5 => ?_) (fun yd5 => ?_)
                      · refine A.inc6N eX4_roof_148 ?_
                        refine A.goto eX4_roof_151 ?_
                        refine ih2 (j + 1) (by omega) (by omega) (fun g hg hj => ?_)
                        rcases Nat.lt_or_ge g j with z | z
                        · exact hgs g hg z
                        · rw [show g = j by omega, ← hS j (by omega) (by omega)]; exact inb_f yd5
                      · refine A.il6 eX4_roof_145 ?_
                        refine B.iret eX4_roof_147 ?_
                        have hs : surex x c q j = true := by rw [← hS j (by omega) (by omega)]; exact inb_t yd5
                        have e : ffst (fun k => surex x c q (h + k)) (24 - h) = j - h := ffst_first (fun k hk => hgs (h + k) (by omega) (by omega)) (by omega) (show surex x c q (h + (j - h)) = true by rw [show h + (j - h) = j by omega]; exact hs)
                        refine vl_of (hQ ξ (hC.scr e1) (e1.mo (by omega) (by omega))) ?_
                        unfold Vroof
                        rw [e, if_pos (by omega), show h + (j - h) = j by omega]
                exact lq 25 h (by omega) (by omega) (fun g a b => by omega)
              · refine A.il1 eX4_roof_79 ?_
                refine A.il6 eX4_roof_80 ?_
                refine A.il4 eX4_roof_82 ?_
                refine A.cSl3 eX4_roof_84 oX4_weightOf kX4_221 (sX4_weightOf (by omega) (by omega) hch ?_)
                refine A.topl wgt_l ?_
                refine A.lconst (v := 0) eX4_roof_87 (by decide) ?_
                refine A.lcmp eX4_roof_88 ?_
                refine A.if_eq eX4_roof_89 (fun yd1 => ?_) (fun yd1 => ?_)
                · refine A.inc6N eX4_roof_118 ?_
                  refine A.goto eX4_roof_121 ?_
                  exact A.eq (by rw [rfb_0 ((wgt_z hc6).mp yd1)]) rfl rfl (ih (i + 1) ξ (by omega) (by omega) e1 e2 e3)
                · refine A.al0 eX4_roof_92 ?_
                  refine A.il6 eX4_roof_93 ?_
                  refine A.cVv1 eX4_roof_95 oX4_tellBadNews kX4_225 ko0 (sX4_tellBadNews (np := xp x) (b0 := xb x) (m := i) (show ξ.1 1 5 = nI (xp x) by rw [e1.1 1 (by omega)]; exact hC.np) n8 (fun p hp => ⟨by rw [e1.1 3 (by omega)]; exact (hC.b p hp).1, (hC.b p hp).2⟩) (by omega) (fun τ4 t1 t2 => ?_))
                  have f1 : Fi 36 41 σ τ4 := e1.tr (t1.mo (by omega) (by omega))
                  refine A.al0 eX4_roof_98 ?_
                  refine A.getR eX4_roof_99 fX4_52 ko0 kr0_7 ?_
                  refine A.cVv0 eX4_roof_102 oX3_live kX4_207 ko36 (sX3_live (v := 36) (la := 23) (nq := xq x) (a := aT x (xT x)) (b0 := nb x i) (kd := xk x) (Or.inr rfl) (by rw [t1.1 36 (by omega)]; exact e2) (by omega) (by rw [f1.1 1 (by omega)]; exact hC.np) n8 (by rw [f1.1 5 (by omega)]; exact hC.nq) q6 (fun a q ha hq => by rw [t1.1 (36 + 1) (by omega)]; exact e3 a q ha hq) (fun h _ => plf_PA) (fun p hp => ⟨t2 p hp, by have := xb_le hp; unfold nb; split <;> omega⟩) (fun p hp => ⟨by rw [f1.1 4 (by omega)]; exact (hC.k p hp).1, (hC.k p hp).2⟩) (fun τ3 m1 m2 => ?_))
                  have f2 : Fi 36 41 σ τ3 := f1.tr (m1.mo (by omega) (by omega))
                  refine A.il5 eX4_roof_105 ?_
                  refine A.al0 eX4_roof_107 ?_
                  refine A.getR eX4_roof_108 fX4_52 ko0 kr0_7 ?_
                  refine A.il2 eX4_roof_111 ?_
                  refine A.cVi1 eX4_roof_112 oX3_metHours kX4_233 ko36 (sX3_metHours (v := 36) (a := fun h => aT x (xT x) h) (b := fun h => bT x (xT x) (nb x i) h) (Or.inr rfl) (by rw [f2.1 1 (by omega)]; exact hC.np) n8 (fun h hh => m2 h (by omega)) (by rw [f2.1 7 (by omega)]; exact hC.lo q bq) (xlo_le bq) (by rw [f2.1 8 (by omega)]; exact hC.hi q bq) (xhi_le bq) (by omega) ?_)
                  refine A.top (show _ = nI (bits (fun g => nmet x i g q) 24) from rfl) ?_
                  refine A.iandN eX4_roof_115 ?_
                  refine A.is5 eX4_roof_116 ?_
                  refine A.inc6N eX4_roof_118 ?_
                  refine A.goto eX4_roof_121 ?_
                  exact A.eq (by rw [rfb_s (fun z => yd1 ((wgt_z hc6).mpr z))]) rfl rfl (ih (i + 1) τ3 (by omega) (by omega) f2 (by rw [m1.1 36 (by omega), t1.1 36 (by omega)]; exact e2) (fun a q ha hq => by rw [m1.1 (36 + 1) (by omega), t1.1 (36 + 1) (by omega)]; exact e3 a q ha hq))
        exact lp (2 ^ xp x + 1) 0 τ2 (Nat.lt_succ_of_le (Nat.sub_le _ _)) (Nat.zero_le _) ((a1.mo (by omega) (by omega)).tr (b1.mo (by omega) (by omega))) (by rw [b1.1 36 (by omega)]; exact a2) (fun a p ha hp => by rw [b2 a p ha hp]; exact plf_eq (la := 23) (np := xp x) (fun a p ha hp => a3 a p ha (by omega)) ha hp)
      · exact absurd ⟨by rw [nI_ti (by omega)]; omega, by rw [nI_ti (by omega)]; omega⟩ c3
set_option maxRecDepth 100000 in
set_option maxHeartbeats 4000000 in
theorem bX4_roof {G : GW} {σ : St} {K : Int32 → St → Prop} {x : XS} {c q h : Int32} (hC : CI x σ) (hb : ¬ (ck c 17 ∧ ck q (xq x) ∧ ck h 24)) (hQ : K (-2) σ) : Ci G (r0 4 90) mX4_roof [rf G 0, .int c, .int q, .int h] σ K := by
  refine Ci.of [some (rf G 0), some (.int c), some (.int q), some (.int h), none, none, none] ?_
  have n8 := hC.np8
  have q6 := hC.nq6
  refine A.il1 eX4_roof_0 ?_
  refine A.bipush (v := nI 17) eX4_roof_1 (by decide) ?_
  refine A.cSi2 eX4_roof_3 oX4_isBelow kX4_67 (sX4_isBelowIN (b := 17) (by omega) ?_)
  refine A.if_eqB eX4_roof_6 (fun c1 => ?_) (fun c1 => ?_)
  · refine A.bipush (v := -2) eX4_roof_24 (by decide) ?_
    refine B.iret eX4_roof_26 ?_
    exact hQ
  · refine A.al0 eX4_roof_9 ?_
    refine A.il2 eX4_roof_10 ?_
    refine A.cVi1 eX4_roof_11 oX4_isPlace kX4_98 ko0 (sX4_isPlace hC.nq hC.nq6 ?_)
    refine A.if_eqB eX4_roof_14 (fun c2 => ?_) (fun c2 => ?_)
    · refine A.bipush (v := -2) eX4_roof_24 (by decide) ?_
      refine B.iret eX4_roof_26 ?_
      exact hQ
    · refine A.il3 eX4_roof_17 ?_
      refine A.cSi1 eX4_roof_18 oX4_isHour kX4_134 (sX4_isHour ?_)
      refine A.if_neB eX4_roof_21 (fun c3 => ?_) (fun c3 => ?_)
      · exact absurd ⟨c1, c2, c3⟩ hb
      · refine A.bipush (v := -2) eX4_roof_24 (by decide) ?_
        refine B.iret eX4_roof_26 ?_
        exact hQ
theorem aX4_roof {G : GW} {σ : St} {K : Int32 → St → Prop} {x : XS} {c q h : Int32} (hC : CI x σ) (hQ : ∀ τ : St, CI x τ → Fi 0 41 σ τ → K (Rroof x c q h) τ) : Ci G (r0 4 90) mX4_roof [rf G 0, .int c, .int q, .int h] σ K := by
  have n8 := hC.np8
  have q6 := hC.nq6
  by_cases hb : ck c 17 ∧ ck q (xq x) ∧ ck h 24
  · have hR : Rroof x c q h = _ := if_pos hb
    rw [hR] at hQ
    obtain ⟨c, bc, rfl⟩ := i_nat hb.1.1 hb.1.2
    obtain ⟨q, bq, rfl⟩ := i_nat hb.2.1.1 hb.2.1.2
    obtain ⟨h, bh, rfl⟩ := i_nat hb.2.2.1 hb.2.2.2
    simp only [nI_clamp (n := c) (by omega), nI_clamp (n := q) (by omega), nI_clamp (n := h) (by omega)] at hQ
    exact sX4_roof hC bc bq bh hQ
  · have hR : Rroof x c q h = _ := if_neg hb
    rw [hR] at hQ
    exact bX4_roof hC hb (hQ σ hC (Fi.rf _ _ _))
