/-! ===== how the told changes ===== -/
def wT (x : XS) (u n : Nat) (tx : Nat → Nat) : XS := if u = 1 then ((n, tx), x.2) else (x.1, (n, tx), x.2.2)
def wg (x : XS) (g : X3) : XS := (x.1, x.2.1, g, x.2.2.2)
def ws (x : XS) (g : X3) : XS := (x.1, x.2.1, x.2.2.1, g, x.2.2.2.2)
def wf (x : XS) (g : X3) : XS := (x.1, x.2.1, x.2.2.1, x.2.2.2.1, g, x.2.2.2.2.2)
def wh (x : XS) (i : Nat) (o : Option Nat) (n : Nat) (g : Nat → Int32) : XS := (x.1, x.2.1, x.2.2.1, x.2.2.2.1, x.2.2.2.2.1, (fun k => if k = i then o else (xh x).1 k, fun k => if k = i then n else (xh x).2.1 k, fun k => if k = i then g else (xh x).2.2 k), x.2.2.2.2.2.2)
def wl (x : XS) (n : Nat) : XS := (x.1, x.2.1, x.2.2.1, x.2.2.2.1, x.2.2.2.2.1, x.2.2.2.2.2.1, n)
def x3a (t : X3) (a b c : Nat) : X3 := (t.1 + 1, fun k => if k = t.1 then a else t.2.1 k, fun k => if k = t.1 then b else t.2.2.1 k, fun k => if k = t.1 then c else t.2.2.2 k)
def x3d (t : X3) : X3 := (t.1 - 1, t.2)
def x3c (t : X3) : X3 := (0, t.2)
def fnd (n : Nat) : Int32 := -10 - nI n
abbrev okt (t : Int32) : Prop := t = nI 0 ∨ t = nI 1
def lu (t : Int32) : Nat := if t = nI 0 then 1 else 5
theorem okt_u {t : Int32} (h : okt t) : ∃ u, Vu u ∧ lu t = u ∧ t = nI (tt u) := by
  rcases h with rfl | rfl
  · exact ⟨1, Or.inl rfl, rfl, rfl⟩
  · exact ⟨5, Or.inr rfl, rfl, rfl⟩
def xz (x : XS) (i : Nat) : Nat := match (xh x).1 i with
  | none => 0
  | some _ => (xh x).2.1 i
def fa (x : XS) (i : Nat) (f j : Int32) : Nat := if ov ((xh x).1 i) = -1 then 1 else if ¬ ov ((xh x).1 i) = f then 3 else if 0 ≤ j.toInt ∧ j.toInt < (xz x i : Int) then 0 else 2
section
variable {x : XS} {σ τ : St}
theorem CI.li {u : Nat} (h : CI x σ) (hu : Vu u) : LI σ u (tL x u) (tX x u) := by
  rcases hu with rfl | rfl
  · exact h.1
  · exact h.2.2.1
theorem CI.lq {u : Nat} (h : CI x σ) (hu : Vu u) : Lq σ u (tL x u) (tX x u) := by
  rcases hu with rfl | rfl
  · exact h.2.1
  · exact h.2.2.2.1
theorem Vu.n0 {u : Nat} (hu : Vu u) : u ≠ 0 := by
  rcases hu with rfl | rfl <;> decide
theorem Lf2.fi {u : Nat} (hu : Vu u) (h : Lf2 σ τ u) : Fi 0 41 σ τ := by
  refine ⟨fun k hk => ?_, h.2⟩
  rcases hu with rfl | rfl <;> exact h.1 k (by omega) (by omega) (by omega) (by omega)
theorem CI.setT {u n : Nat} {tx : Nat → Nat} (hu : Vu u) (h : CI x σ) (hF : Lf2 σ τ u) (g1 : LI τ u n tx) (g2 : Lq τ u n tx) : CI (wT x u n tx) (ur τ 0 (upd (τ.1 0) 8 (nI 0))) := by
  obtain ⟨h1, h2, h3, h4, h5, h6, h7, h8, h9, h10⟩ := h
  have e : ∀ k, k ≠ 0 → k ≠ u → k ≠ u + 1 → k ≠ u + 2 → k ≠ u + 3 → (ur τ 0 (upd (τ.1 0) 8 (nI 0))).1 k = σ.1 k := fun k a b c d f => (ur_n a).trans (hF.1 k b c d f)
  have e0 : (ur τ 0 (upd (τ.1 0) 8 (nI 0))).1 0 9 = σ.1 0 9 := by
    rw [ur_s, upd_n (by omega), hF.1 0 (by have := hu.n0; omega) (by omega) (by omega) (by omega)]
  rcases hu with rfl | rfl
  · exact ⟨g1.cg (fun k _ _ => ur_n (by omega)), g2.cg (fun k _ _ => ur_n (by omega)), h3.cg (fun k _ _ => e k (by omega) (by omega) (by omega) (by omega) (by omega)), h4.cg (fun k _ _ => e k (by omega) (by omega) (by omega) (by omega) (by omega)), h5.cg (fun k _ _ => e k (by omega) (by omega) (by omega) (by omega) (by omega)), h6.cg (fun k _ _ => e k (by omega) (by omega) (by omega) (by omega) (by omega)), h7.cg (fun k _ _ => e k (by omega) (by omega) (by omega) (by omega) (by omega)), h8.cg (fun k _ _ => e k (by omega) (by omega) (by omega) (by omega) (by omega)), e0.trans h9, Or.inl (by rw [ur_s, upd_s])⟩
  · exact ⟨h1.cg (fun k _ _ => e k (by omega) (by omega) (by omega) (by omega) (by omega)), h2.cg (fun k _ _ => e k (by omega) (by omega) (by omega) (by omega) (by omega)), g1.cg (fun k _ _ => ur_n (by omega)), g2.cg (fun k _ _ => ur_n (by omega)), h5.cg (fun k _ _ => e k (by omega) (by omega) (by omega) (by omega) (by omega)), h6.cg (fun k _ _ => e k (by omega) (by omega) (by omega) (by omega) (by omega)), h7.cg (fun k _ _ => e k (by omega) (by omega) (by omega) (by omega) (by omega)), h8.cg (fun k _ _ => e k (by omega) (by omega) (by omega) (by omega) (by omega)), e0.trans h9, Or.inl (by rw [ur_s, upd_s])⟩
theorem CI.setG {g : X3} (h : CI x σ) (hF : Fi 9 12 σ τ) (hg : GO τ g.1 g.2.1 g.2.2.1 g.2.2.2) : CI (wg x g) (ur τ 0 (upd (τ.1 0) 8 (nI 0))) := by
  obtain ⟨h1, h2, h3, h4, h5, h6, h7, h8, h9, h10⟩ := h
  have e : ∀ k, k ≠ 0 → (k < 9 ∨ 12 < k) → (ur τ 0 (upd (τ.1 0) 8 (nI 0))).1 k = σ.1 k := fun k a b => (ur_n a).trans (hF.1 k b)
  refine ⟨h1.cg (fun k _ _ => e k (by omega) (by omega)), h2.cg (fun k _ _ => e k (by omega) (by omega)), h3.cg (fun k _ _ => e k (by omega) (by omega)), h4.cg (fun k _ _ => e k (by omega) (by omega)), hg.cg (fun k _ _ => ur_n (by omega)), h6.cg (fun k _ _ => e k (by omega) (by omega)), h7.cg (fun k _ _ => e k (by omega) (by omega)), h8.cg (fun k _ _ => e k (by omega) (by omega)), ?_, Or.inl (by rw [ur_s, upd_s])⟩
  rw [ur_s, upd_n (by omega), hF.1 0 (by omega)]; exact h9
theorem CI.setS {g : X3} (h : CI x σ) (hF : Fi 13 16 σ τ) (hg : SE τ g.1 g.2.1 g.2.2.1 g.2.2.2) : CI (ws x g) τ := by
  obtain ⟨h1, h2, h3, h4, h5, h6, h7, h8, h9, h10⟩ := h
  refine ⟨h1.cg (fun k _ _ => hF.1 k (by omega)), h2.cg (fun k _ _ => hF.1 k (by omega)), h3.cg (fun k _ _ => hF.1 k (by omega)), h4.cg (fun k _ _ => hF.1 k (by omega)), h5.cg (fun k _ _ => hF.1 k (by omega)), hg, h7.cg (fun k _ _ => hF.1 k (by omega)), h8.cg (fun k _ _ => hF.1 k (by omega)), by rw [hF.1 0 (by omega)]; exact h9, ?_⟩
  rw [hF.1 0 (by omega)]
  exact h10.imp id (fun ⟨a, b⟩ => ⟨a, FV.cg (fun k _ _ => hF.1 k (by omega)) b⟩)
theorem CI.setF {g : X3} (h : CI x σ) (hF : Fi 17 20 σ τ) (hg : FE τ g.1 g.2.1 g.2.2.1 g.2.2.2) : CI (wf x g) τ := by
  obtain ⟨h1, h2, h3, h4, h5, h6, h7, h8, h9, h10⟩ := h
  refine ⟨h1.cg (fun k _ _ => hF.1 k (by omega)), h2.cg (fun k _ _ => hF.1 k (by omega)), h3.cg (fun k _ _ => hF.1 k (by omega)), h4.cg (fun k _ _ => hF.1 k (by omega)), h5.cg (fun k _ _ => hF.1 k (by omega)), h6.cg (fun k _ _ => hF.1 k (by omega)), hg, h8.cg (fun k _ _ => hF.1 k (by omega)), by rw [hF.1 0 (by omega)]; exact h9, ?_⟩
  rw [hF.1 0 (by omega)]
  exact h10.imp id (fun ⟨a, b⟩ => ⟨a, FV.cg (fun k _ _ => hF.1 k (by omega)) b⟩)
theorem CI.setL {n : Nat} (h : CI x σ) : CI (wl x n) (ur σ 0 (upd (σ.1 0) 9 (nI n))) := by
  obtain ⟨h1, h2, h3, h4, h5, h6, h7, h8, h9, h10⟩ := h
  refine ⟨h1.cg (fun k _ _ => ur_n (by omega)), h2.cg (fun k _ _ => ur_n (by omega)), h3.cg (fun k _ _ => ur_n (by omega)), h4.cg (fun k _ _ => ur_n (by omega)), h5.cg (fun k _ _ => ur_n (by omega)), h6.cg (fun k _ _ => ur_n (by omega)), h7.cg (fun k _ _ => ur_n (by omega)), h8.cg (fun k _ _ => ur_n (by omega)), by rw [ur_s, upd_s]; rfl, ?_⟩
  rw [ur_s, upd_n (by omega)]
  exact h10.imp id (fun ⟨a, b⟩ => ⟨a, FV.cg (fun k _ _ => ur_n (by omega)) b⟩)
theorem CI.setH {i n s : Nat} {o : Option Nat} {g : Nat → Int32} (hi : i < 4) (es : s = 22 + 2 * i) (h : CI x σ) (hF : ∀ k, k ≠ s → k ≠ s + 1 → τ.1 k = σ.1 k) (ho : (o = none ∧ τ.1 s 1 = -1) ∨ ∃ f, o = some f ∧ f < 3 ∧ τ.1 s 1 = nI f ∧ τ.1 s 2 = nI n ∧ n ≤ 60 ∧ ∀ j, j < n → τ.1 (s + 1) j = g j) : CI (wh x i o n g) τ := by
  obtain ⟨h1, h2, h3, h4, h5, h6, h7, h8, h9, h10⟩ := h
  subst es
  refine ⟨h1.cg (fun k _ _ => hF k (by omega) (by omega)), h2.cg (fun k _ _ => hF k (by omega) (by omega)), h3.cg (fun k _ _ => hF k (by omega) (by omega)), h4.cg (fun k _ _ => hF k (by omega) (by omega)), h5.cg (fun k _ _ => hF k (by omega) (by omega)), h6.cg (fun k _ _ => hF k (by omega) (by omega)), h7.cg (fun k _ _ => hF k (by omega) (by omega)), fun k hk => ?_, by rw [hF 0 (by omega) (by omega)]; exact h9, ?_⟩
  · show ((if k = i then o else (xh x).1 k) = none ∧ _) ∨ ∃ f, (if k = i then o else (xh x).1 k) = some f ∧ f < 3 ∧ _ ∧ τ.1 _ 2 = nI (if k = i then n else (xh x).2.1 k) ∧ (if k = i then n else (xh x).2.1 k) ≤ 60 ∧ ∀ j, j < (if k = i then n else (xh x).2.1 k) → τ.1 _ j = (if k = i then g else (xh x).2.2 k) j
    by_cases e : k = i
    · subst e
      simp only [if_true]
      exact ho
    · simp only [if_neg e]
      rw [hF (22 + 2 * k) (by omega) (by omega), hF (22 + 2 * k + 1) (by omega) (by omega)]
      exact h8 k hk
  · rw [hF 0 (by omega) (by omega)]
    exact h10.imp id (fun ⟨a, b⟩ => ⟨a, FV.cg (fun k _ _ => hF k (by omega) (by omega)) b⟩)
theorem CI.sf {i s : Nat} (h : CI x σ) (hi : i < 4) (es : s = 22 + 2 * i) : σ.1 s 1 = ov ((xh x).1 i) := by
  subst es
  rcases h.sh i hi with ⟨a, b⟩ | ⟨g, a, b, c, d⟩
  · rw [a]; exact b
  · rw [a]; exact c
theorem CI.sz {i s : Nat} (h : CI x σ) (hi : i < 4) (es : s = 22 + 2 * i) (hn : ¬ σ.1 s 1 = -1) : σ.1 s 2 = nI (xz x i) := by
  subst es
  rcases h.sh i hi with ⟨a, b⟩ | ⟨g, a, b, c, d, f⟩
  · exact absurd b hn
  · unfold xz; rw [a]; exact d
theorem CI.sz6 {i : Nat} (h : CI x σ) (hi : i < 4) : xz x i ≤ 60 := by
  rcases h.sh i hi with ⟨a, b⟩ | ⟨g, a, b, c, d, f, k⟩
  · unfold xz; rw [a]; exact Nat.zero_le _
  · unfold xz; rw [a]; exact f
theorem CI.si {i s j : Nat} (h : CI x σ) (hi : i < 4) (es : s = 22 + 2 * i) (hj : j < xz x i) : σ.1 (s + 1) j = (xh x).2.2 i j := by
  subst es
  rcases h.sh i hi with ⟨a, b⟩ | ⟨g, a, b, c, d, f, k⟩
  · unfold xz at hj; rw [a] at hj; exact absurd hj (Nat.not_lt_zero _)
  · unfold xz at hj; rw [a] at hj; exact k j hj
theorem CI.sg {i s : Nat} (h : CI x σ) (hi : i < 4) (es : s = 22 + 2 * i) (hn : ¬ σ.1 s 1 = -1) : ∃ g, (xh x).1 i = some g ∧ g < 3 ∧ σ.1 s 1 = nI g ∧ xz x i = (xh x).2.1 i := by
  subst es
  rcases h.sh i hi with ⟨a, b⟩ | ⟨g, a, b, c, d⟩
  · exact absurd b hn
  · exact ⟨g, a, b, c, by unfold xz; rw [a]⟩
end
theorem Vs_of {i s : Nat} (hi : i < 4) (es : s = 22 + 2 * i) : Vs s := by
  subst es
  rcases (show i = 0 ∨ i = 1 ∨ i = 2 ∨ i = 3 by omega) with rfl | rfl | rfl | rfl <;> simp [Vs]
theorem tadd_sz {σ : St} {t n : Nat} {a b c : Int32} : (tadd σ t n a b c).1 t 3 = nI (n + 1) := by
  unfold tadd; rw [ur_s, upd_s]
theorem tadd_1 {σ : St} {t n k : Nat} {a b c : Int32} : (tadd σ t n a b c).1 (t + 1) k = if k = n then a else σ.1 (t + 1) k := by
  unfold tadd
  rw [ur_n (by omega), ur_n (by omega), ur_n (by omega), ur_s]
  split
  · next e => rw [e, upd_s]
  · next e => rw [upd_n e]
theorem tadd_2 {σ : St} {t n k : Nat} {a b c : Int32} : (tadd σ t n a b c).1 (t + 2) k = if k = n then b else σ.1 (t + 2) k := by
  unfold tadd
  rw [ur_n (by omega), ur_n (by omega), ur_s]
  split
  · next e => rw [e, upd_s]
  · next e => rw [upd_n e]
theorem tadd_3 {σ : St} {t n k : Nat} {a b c : Int32} : (tadd σ t n a b c).1 (t + 3) k = if k = n then c else σ.1 (t + 3) k := by
  unfold tadd
  rw [ur_n (by omega), ur_s]
  split
  · next e => rw [e, upd_s]
  · next e => rw [upd_n e]
theorem tadd_fi {σ : St} {t n : Nat} {a b c : Int32} : Fi t (t + 3) σ (tadd σ t n a b c) := by
  unfold tadd
  exact ((((Fi.rf t (t + 3) σ).ur (by omega) (by omega)).ur (by omega) (by omega)).ur (by omega) (by omega)).ur (by omega) (by omega)
theorem T3.add {σ : St} {t n A B C a b c : Nat} {fa fb fc : Nat → Nat} (ha : a < A) (hb : b < B) (hc : c < C) (h : ∀ k, k < n → (σ.1 (t + 1) k = nI (fa k) ∧ fa k < A) ∧ (σ.1 (t + 2) k = nI (fb k) ∧ fb k < B) ∧ (σ.1 (t + 3) k = nI (fc k) ∧ fc k < C)) : ∀ k, k < n + 1 → ((tadd σ t n (nI a) (nI b) (nI c)).1 (t + 1) k = nI (if k = n then a else fa k) ∧ (if k = n then a else fa k) < A) ∧ ((tadd σ t n (nI a) (nI b) (nI c)).1 (t + 2) k = nI (if k = n then b else fb k) ∧ (if k = n then b else fb k) < B) ∧ ((tadd σ t n (nI a) (nI b) (nI c)).1 (t + 3) k = nI (if k = n then c else fc k) ∧ (if k = n then c else fc k) < C) := by
  intro k hk
  rw [tadd_1, tadd_2, tadd_3]
  by_cases e : k = n
  · subst e
    simp [ha, hb, hc]
  · simp only [if_neg e]
    exact h k (by omega)
theorem isum_eq {f g : Nat → Int32} : ∀ {n : Nat}, (∀ i, i < n → f i = g i) → isum f n = isum g n := by
  intro n
  induction n with
  | zero => intro _; rfl
  | succ n ih => intro h; unfold isum; rw [ih (fun i hi => h i (by omega)), h n (by omega)]
set_option maxRecDepth 100000 in
set_option maxHeartbeats 4000000 in
theorem sX4_type {G : GW} {σ : St} {K : Int32 → St → Prop} {x : XS} {u b : Nat} (hC : CI x σ) (hu : Vu u) (bb : b < 256) (hQ : ∀ τ : St, CI (if tL x u < lb u then wT x u (tL x u + 1) (fun i => if i = tL x u then b else tX x u i) else x) τ → Fi 0 41 σ τ → K (if tL x u < lb u then nI (tL x u + 1) else -4) τ) : Ci G (r0 5 104) mX4_type [rf G 0, .int (nI (tt u)), .int (nI b)] σ K := by
  refine Ci.of [some (rf G 0), some (.int (nI (tt u))), some (.int (nI b)), none] ?_
  have li := hC.li hu
  have lq := hC.lq hu
  have u0 := hu.n0
  have lb2 := lb_le u
  have l3 := li.2.2.1
  refine A.al0 eX4_type_0 ?_
  refine A.il1 eX4_type_1 ?_
  refine A.cVa1 eX4_type_2 oX4_listingOf kX4_63 ko0 (sX4_listingOf hu ?_)
  refine A.as3 eX4_type_5 ?_
  refine A.al3 eX4_type_6 ?_
  refine A.ifnull eX4_type_7 ?_
  refine A.il2 eX4_type_10 ?_
  refine A.sipush (v := nI 256) eX4_type_11 (by decide) ?_
  refine A.cSi2 eX4_type_14 oX4_isBelow kX4_67 (sX4_isBelowIN (b := 256) (by omega) ?_)
  refine A.if_neB eX4_type_17 (fun yd0 => ?_) (fun yd0 => ?_)
  · refine A.al3 eX4_type_23 ?_
    refine A.cVi0 eX4_type_24 oX0_hasRoom kX4_71 (kuo hu) (sX0_hasRoom hu li.2.1 li.2.2.1 ?_)
    refine A.if_neB eX4_type_27 (fun yd1 => ?_) (fun yd1 => ?_)
    · refine A.al3 eX4_type_33 ?_
      refine A.il2 eX4_type_34 ?_
      refine A.cVv1 eX4_type_35 oX0_append kX4_75 (kuo hu) (sX0_append hu li bb yd1 (fun τ f1 f2 f3 => ?_))
      refine A.al0 eX4_type_38 ?_
      refine A.iconst (v := nI 0) eX4_type_39 (by decide) ?_
      refine A.putZ eX4_type_40 pX4_55 ko0 (by decide) ?_
      refine A.al3 eX4_type_43 ?_
      refine A.getI eX4_type_44 fX4_78 (kuo hu) ?_
      refine A.top (show _ = nI (tL x u + 1) by rw [ur_n u0]; exact f2.2.1) ?_
      refine B.iret eX4_type_47 ?_
      simp only [if_pos yd1] at hQ
      exact hQ _ (CI.setT hu hC f1 f2 f3) ((f1.fi hu).ur (by omega) (by omega))
    · refine A.bipush (v := -4) eX4_type_30 (by decide) ?_
      refine B.iret eX4_type_32 ?_
      simp only [if_neg yd1] at hQ
      exact hQ σ hC (Fi.rf _ _ _)
  · exact absurd ⟨by rw [nI_ti (by omega)]; omega, by rw [nI_ti (by omega)]; omega⟩ yd0
set_option maxRecDepth 100000 in
set_option maxHeartbeats 4000000 in
theorem bX4_type {G : GW} {σ : St} {K : Int32 → St → Prop} {u : Nat} {b : Int32} (hu : Vu u) (hb : ¬ ck b 256) (hQ : K (-2) σ) : Ci G (r0 5 104) mX4_type [rf G 0, .int (nI (tt u)), .int b] σ K := by
  refine Ci.of [some (rf G 0), some (.int (nI (tt u))), some (.int b), none] ?_
  refine A.al0 eX4_type_0 ?_
  refine A.il1 eX4_type_1 ?_
  refine A.cVa1 eX4_type_2 oX4_listingOf kX4_63 ko0 (sX4_listingOf hu ?_)
  refine A.as3 eX4_type_5 ?_
  refine A.al3 eX4_type_6 ?_
  refine A.ifnull eX4_type_7 ?_
  refine A.il2 eX4_type_10 ?_
  refine A.sipush (v := nI 256) eX4_type_11 (by decide) ?_
  refine A.cSi2 eX4_type_14 oX4_isBelow kX4_67 (sX4_isBelowIN (b := 256) (by omega) ?_)
  refine A.if_neB eX4_type_17 (fun yd0 => ?_) (fun yd0 => ?_)
  · exact absurd yd0 hb
  · refine A.bipush (v := -2) eX4_type_20 (by decide) ?_
    refine B.iret eX4_type_22 ?_
    exact hQ
set_option maxRecDepth 100000 in
set_option maxHeartbeats 4000000 in
theorem zX4_type {G : GW} {σ : St} {K : Int32 → St → Prop} {t y0 : Int32} (h0 : ¬ okt t) (hQ : K (-2) σ) : Ci G (r0 5 104) mX4_type [rf G 0, .int t, .int y0] σ K := by
  refine Ci.of [some (rf G 0), some (.int t), some (.int y0), none] ?_
  refine A.al0 eX4_type_0 ?_
  refine A.il1 eX4_type_1 ?_
  refine A.cVa1 eX4_type_2 oX4_listingOf kX4_63 ko0 (sX4_listingOfN (fun z => h0 (Or.inl z)) (fun z => h0 (Or.inr z)) ?_)
  refine A.an_s3 eX4_type_5 ?_
  refine A.an3 eX4_type_6 ?_
  refine A.ifnullN eX4_type_7 ?_
  refine A.bipush (v := -2) eX4_type_20 (by decide) ?_
  refine B.iret eX4_type_22 ?_
  exact hQ
def Rtype (x : XS) (t b : Int32) : Int32 := if okt t ∧ ck b 256 then (if tL x (lu t) < lb (lu t) then nI (tL x (lu t) + 1) else -4) else -2
def Ntype (x : XS) (t b : Int32) : XS := if okt t ∧ ck b 256 then (if tL x (lu t) < lb (lu t) then wT x (lu t) (tL x (lu t) + 1) (fun i => if i = tL x (lu t) then b.toNatClampNeg else tX x (lu t) i) else x) else x
theorem aX4_type {G : GW} {σ : St} {K : Int32 → St → Prop} {x : XS} {t b : Int32} (hC : CI x σ) (hQ : ∀ τ : St, CI (Ntype x t b) τ → Fi 0 41 σ τ → K (Rtype x t b) τ) : Ci G (r0 5 104) mX4_type [rf G 0, .int t, .int b] σ K := by
  unfold Rtype Ntype at hQ
  by_cases ht : okt t
  · by_cases hb : ck b 256
    · obtain ⟨u, hu, hl, et⟩ := okt_u ht
      simp only [if_pos (show okt t ∧ ck b 256 from ⟨ht, hb⟩), hl] at hQ
      subst et
      obtain ⟨b, bb, rfl⟩ := i_nat hb.1 hb.2
      simp only [nI_clamp (n := b) (by omega)] at hQ
      exact sX4_type hC hu bb hQ
    · obtain ⟨u, hu, hl, et⟩ := okt_u ht
      simp only [if_neg (show ¬ (okt t ∧ ck b 256) from fun z => hb z.2)] at hQ
      subst et
      exact bX4_type hu hb (hQ σ hC (Fi.rf _ _ _))
  · simp only [if_neg (show ¬ (okt t ∧ ck b 256) from fun z => ht z.1)] at hQ
    exact zX4_type ht (hQ σ hC (Fi.rf _ _ _))
set_option maxRecDepth 100000 in
set_option maxHeartbeats 4000000 in
theorem sX4_wipe {G : GW} {σ : St} {K : Int32 → St → Prop} {x : XS} {u : Nat} (hC : CI x σ) (hu : Vu u) (hQ : ∀ τ : St, CI (wT x u 0 (tX x u)) τ → Fi 0 41 σ τ → K (nI (tL x u)) τ) : Ci G (r0 5 104) mX4_wipe [rf G 0, .int (nI (tt u))] σ K := by
  refine Ci.of [some (rf G 0), some (.int (nI (tt u))), none, none] ?_
  have li := hC.li hu
  have lq := hC.lq hu
  have u0 := hu.n0
  have lb2 := lb_le u
  have l3 := li.2.2.1
  refine A.al0 eX4_wipe_0 ?_
  refine A.il1 eX4_wipe_1 ?_
  refine A.cVa1 eX4_wipe_2 oX4_listingOf kX4_63 ko0 (sX4_listingOf hu ?_)
  refine A.as2 eX4_wipe_5 ?_
  refine A.al2 eX4_wipe_6 ?_
  refine A.ifnonnull eX4_wipe_7 ?_
  refine A.al2 eX4_wipe_13 ?_
  refine A.getI eX4_wipe_14 fX4_78 (kuo hu) ?_
  refine A.top li.2.1 ?_
  refine A.is3 eX4_wipe_17 ?_
  refine A.al2 eX4_wipe_18 ?_
  refine A.iconst (v := nI 0) eX4_wipe_19 (by decide) ?_
  refine A.cVv1 eX4_wipe_20 oX0_shorten kX4_81 (kuo hu) (sX0_shorten (m := 0) hu li (Nat.zero_le _) (fun τ f1 f2 f3 => ?_))
  refine A.al0 eX4_wipe_23 ?_
  refine A.iconst (v := nI 0) eX4_wipe_24 (by decide) ?_
  refine A.putZ eX4_wipe_25 pX4_55 ko0 (by decide) ?_
  refine A.il3 eX4_wipe_28 ?_
  refine B.iret eX4_wipe_29 ?_
  exact hQ _ (CI.setT hu hC f1 f2 f3) ((f1.fi hu).ur (by omega) (by omega))
set_option maxRecDepth 100000 in
set_option maxHeartbeats 4000000 in
theorem zX4_wipe {G : GW} {σ : St} {K : Int32 → St → Prop} {t : Int32} (h0 : ¬ okt t) (hQ : K (-2) σ) : Ci G (r0 5 104) mX4_wipe [rf G 0, .int t] σ K := by
  refine Ci.of [some (rf G 0), some (.int t), none, none] ?_
  refine A.al0 eX4_wipe_0 ?_
  refine A.il1 eX4_wipe_1 ?_
  refine A.cVa1 eX4_wipe_2 oX4_listingOf kX4_63 ko0 (sX4_listingOfN (fun z => h0 (Or.inl z)) (fun z => h0 (Or.inr z)) ?_)
  refine A.an_s2 eX4_wipe_5 ?_
  refine A.an2 eX4_wipe_6 ?_
  refine A.ifnonnullN eX4_wipe_7 ?_
  refine A.bipush (v := -2) eX4_wipe_10 (by decide) ?_
  refine B.iret eX4_wipe_12 ?_
  exact hQ
def Rwipe (x : XS) (t : Int32) : Int32 := if okt t then nI (tL x (lu t)) else -2
def Nwipe (x : XS) (t : Int32) : XS := if okt t then wT x (lu t) 0 (tX x (lu t)) else x
theorem aX4_wipe {G : GW} {σ : St} {K : Int32 → St → Prop} {x : XS} {t : Int32} (hC : CI x σ) (hQ : ∀ τ : St, CI (Nwipe x t) τ → Fi 0 41 σ τ → K (Rwipe x t) τ) : Ci G (r0 5 104) mX4_wipe [rf G 0, .int t] σ K := by
  unfold Rwipe Nwipe at hQ
  by_cases ht : okt t
  · obtain ⟨u, hu, hl, et⟩ := okt_u ht
    simp only [if_pos ht, hl] at hQ
    subst et
    exact sX4_wipe hC hu hQ
  · simp only [if_neg ht] at hQ
    exact zX4_wipe ht (hQ σ hC (Fi.rf _ _ _))
set_option maxRecDepth 100000 in
set_option maxHeartbeats 4000000 in
theorem sX4_undo {G : GW} {σ : St} {K : Int32 → St → Prop} {x : XS} {u : Nat} (hC : CI x σ) (hu : Vu u) (hQ : ∀ τ : St, CI (if tL x u = 0 then x else wT x u (tL x u - 1) (tX x u)) τ → Fi 0 41 σ τ → K (if tL x u = 0 then -3 else nI (tL x u - 1)) τ) : Ci G (r0 5 104) mX4_undo [rf G 0, .int (nI (tt u))] σ K := by
  refine Ci.of [some (rf G 0), some (.int (nI (tt u))), none] ?_
  have li := hC.li hu
  have lq := hC.lq hu
  have u0 := hu.n0
  have lb2 := lb_le u
  have l3 := li.2.2.1
  refine A.al0 eX4_undo_0 ?_
  refine A.il1 eX4_undo_1 ?_
  refine A.cVa1 eX4_undo_2 oX4_listingOf kX4_63 ko0 (sX4_listingOf hu ?_)
  refine A.as2 eX4_undo_5 ?_
  refine A.al2 eX4_undo_6 ?_
  refine A.ifnonnull eX4_undo_7 ?_
  refine A.al2 eX4_undo_13 ?_
  refine A.getI eX4_undo_14 fX4_78 (kuo hu) ?_
  refine A.top li.2.1 ?_
  refine A.if_neN eX4_undo_17 (fun yd1 => ?_) (fun yd1 => ?_)
  · refine A.al2 eX4_undo_23 ?_
    refine A.al2 eX4_undo_24 ?_
    refine A.getI eX4_undo_25 fX4_78 (kuo hu) ?_
    refine A.top li.2.1 ?_
    refine A.iconst (v := nI 1) eX4_undo_28 (by decide) ?_
    refine A.isubN eX4_undo_29 ?_
    refine A.cVv1 eX4_undo_30 oX0_shorten kX4_81 (kuo hu) (sX0_shorten (m := tL x u - 1) hu li (by omega) (fun τ f1 f2 f3 => ?_))
    refine A.al0 eX4_undo_33 ?_
    refine A.iconst (v := nI 0) eX4_undo_34 (by decide) ?_
    refine A.putZ eX4_undo_35 pX4_55 ko0 (by decide) ?_
    refine A.al2 eX4_undo_38 ?_
    refine A.getI eX4_undo_39 fX4_78 (kuo hu) ?_
    refine A.top (show _ = nI (tL x u - 1) by rw [ur_n u0]; exact f2.2.1) ?_
    refine B.iret eX4_undo_42 ?_
    simp only [if_neg yd1] at hQ
    exact hQ _ (CI.setT hu hC f1 f2 f3) ((f1.fi hu).ur (by omega) (by omega))
  · refine A.bipush (v := -3) eX4_undo_20 (by decide) ?_
    refine B.iret eX4_undo_22 ?_
    simp only [if_pos yd1] at hQ
    exact hQ σ hC (Fi.rf _ _ _)
set_option maxRecDepth 100000 in
set_option maxHeartbeats 4000000 in
theorem zX4_undo {G : GW} {σ : St} {K : Int32 → St → Prop} {t : Int32} (h0 : ¬ okt t) (hQ : K (-2) σ) : Ci G (r0 5 104) mX4_undo [rf G 0, .int t] σ K := by
  refine Ci.of [some (rf G 0), some (.int t), none] ?_
  refine A.al0 eX4_undo_0 ?_
  refine A.il1 eX4_undo_1 ?_
  refine A.cVa1 eX4_undo_2 oX4_listingOf kX4_63 ko0 (sX4_listingOfN (fun z => h0 (Or.inl z)) (fun z => h0 (Or.inr z)) ?_)
  refine A.an_s2 eX4_undo_5 ?_
  refine A.an2 eX4_undo_6 ?_
  refine A.ifnonnullN eX4_undo_7 ?_
  refine A.bipush (v := -2) eX4_undo_10 (by decide) ?_
  refine B.iret eX4_undo_12 ?_
  exact hQ
def Rundo (x : XS) (t : Int32) : Int32 := if okt t then if tL x (lu t) = 0 then -3 else nI (tL x (lu t) - 1) else -2
def Nundo (x : XS) (t : Int32) : XS := if okt t then if tL x (lu t) = 0 then x else wT x (lu t) (tL x (lu t) - 1) (tX x (lu t)) else x
theorem aX4_undo {G : GW} {σ : St} {K : Int32 → St → Prop} {x : XS} {t : Int32} (hC : CI x σ) (hQ : ∀ τ : St, CI (Nundo x t) τ → Fi 0 41 σ τ → K (Rundo x t) τ) : Ci G (r0 5 104) mX4_undo [rf G 0, .int t] σ K := by
  unfold Rundo Nundo at hQ
  by_cases ht : okt t
  · obtain ⟨u, hu, hl, et⟩ := okt_u ht
    simp only [if_pos ht, hl] at hQ
    subst et
    exact sX4_undo hC hu hQ
  · simp only [if_neg ht] at hQ
    exact zX4_undo ht (hQ σ hC (Fi.rf _ _ _))
set_option maxRecDepth 100000 in
set_option maxHeartbeats 4000000 in
theorem sX4_fault {G : GW} {σ : St} {K : Int32 → St → Prop} {x : XS} {u : Nat} (hC : CI x σ) (hu : Vu u) (hQ : ∀ τ : St, CI (x) τ → Fi 0 41 σ τ → K (zI (flt u (tX x u) (tL x u))) τ) : Ci G (r0 1 21) mX4_fault [rf G 0, .int (nI (tt u))] σ K := by
  refine Ci.of [some (rf G 0), some (.int (nI (tt u))), none] ?_
  have li := hC.li hu
  have lq := hC.lq hu
  have u0 := hu.n0
  have lb2 := lb_le u
  have l3 := li.2.2.1
  refine A.al0 eX4_fault_0 ?_
  refine A.il1 eX4_fault_1 ?_
  refine A.cVa1 eX4_fault_2 oX4_listingOf kX4_63 ko0 (sX4_listingOf hu ?_)
  refine A.as2 eX4_fault_5 ?_
  refine A.al2 eX4_fault_6 ?_
  refine A.ifnonnull eX4_fault_7 ?_
  refine A.al2 eX4_fault_15 ?_
  refine A.getI eX4_fault_16 fX4_84 (kuo hu) ?_
  refine B.iret eX4_fault_19 ?_
  exact vl_of (hQ σ hC (Fi.rf _ _ _)) lq.1
set_option maxRecDepth 100000 in
set_option maxHeartbeats 4000000 in
theorem zX4_fault {G : GW} {σ : St} {K : Int32 → St → Prop} {t : Int32} (h0 : ¬ okt t) (hQ : K (-2) σ) : Ci G (r0 1 21) mX4_fault [rf G 0, .int t] σ K := by
  refine Ci.of [some (rf G 0), some (.int t), none] ?_
  refine A.al0 eX4_fault_0 ?_
  refine A.il1 eX4_fault_1 ?_
  refine A.cVa1 eX4_fault_2 oX4_listingOf kX4_63 ko0 (sX4_listingOfN (fun z => h0 (Or.inl z)) (fun z => h0 (Or.inr z)) ?_)
  refine A.an_s2 eX4_fault_5 ?_
  refine A.an2 eX4_fault_6 ?_
  refine A.ifnonnullN eX4_fault_7 ?_
  refine A.bipush (v := -2) eX4_fault_10 (by decide) ?_
  refine A.goto eX4_fault_12 ?_
  refine B.iret eX4_fault_19 ?_
  exact hQ
def Rfault (x : XS) (t : Int32) : Int32 := if okt t then zI (flt (lu t) (tX x (lu t)) (tL x (lu t))) else -2
theorem aX4_fault {G : GW} {σ : St} {K : Int32 → St → Prop} {x : XS} {t : Int32} (hC : CI x σ) (hQ : ∀ τ : St, CI (x) τ → Fi 0 41 σ τ → K (Rfault x t) τ) : Ci G (r0 1 21) mX4_fault [rf G 0, .int t] σ K := by
  unfold Rfault  at hQ
  by_cases ht : okt t
  · obtain ⟨u, hu, hl, et⟩ := okt_u ht
    simp only [if_pos ht, hl] at hQ
    subst et
    exact sX4_fault hC hu hQ
  · simp only [if_neg ht] at hQ
    exact zX4_fault ht (hQ σ hC (Fi.rf _ _ _))
def Rperson (x : XS) (p w : Int32) : Int32 := if ck p (xp x) ∧ ck w 2 then (if w.toNatClampNeg = 0 then nI (xb x p.toNatClampNeg) else nI (xk x p.toNatClampNeg)) else -2
set_option maxRecDepth 100000 in
set_option maxHeartbeats 4000000 in
theorem sX4_person {G : GW} {σ : St} {K : Int32 → St → Prop} {x : XS} {p w : Nat} (hC : CI x σ) (bp : p < (xp x)) (bw : w < 2) (hQ : ∀ τ : St, CI x τ → Fi 0 41 σ τ → K ((if w = 0 then nI (xb x p) else nI (xk x p))) τ) : Ci G (r0 2 42) mX4_person [rf G 0, .int (nI p), .int (nI w)] σ K := by
  refine Ci.of [some (rf G 0), some (.int (nI p)), some (.int (nI w))] ?_
  have n8 := hC.np8
  have q6 := hC.nq6
  refine A.al0 eX4_person_0 ?_
  refine A.il1 eX4_person_1 ?_
  refine A.cVi1 eX4_person_2 oX4_isPerson kX4_87 ko0 (sX4_isPerson hC.np hC.np8 ?_)
  refine A.if_eqB eX4_person_5 (fun c1 => ?_) (fun c1 => ?_)
  · exact absurd ⟨by rw [nI_ti (by omega)]; omega, by rw [nI_ti (by omega)]; omega⟩ c1
  · refine A.il2 eX4_person_8 ?_
    refine A.iconst (v := nI 2) eX4_person_9 (by decide) ?_
    refine A.cSi2 eX4_person_10 oX4_isBelow kX4_67 (sX4_isBelowIN (b := 2) (by omega) ?_)
    refine A.if_neB eX4_person_13 (fun c2 => ?_) (fun c2 => ?_)
    · refine A.il2 eX4_person_19 ?_
      refine A.if_neN eX4_person_20 (fun yd1 => ?_) (fun yd1 => ?_)
      · refine A.al0 eX4_person_34 ?_
        refine A.getR eX4_person_35 fX4_14 ko0 kr0_0 ?_
        refine A.il1 eX4_person_38 ?_
        refine A.cVi1 eX4_person_39 oX0_second kX4_95 ko1 (sX0_second (u := 1) (Or.inl rfl) (show p < lm 1 from Nat.lt_of_lt_of_le bp (by first | exact n8 | exact q6)) ?_)
        refine B.iret eX4_person_42 ?_
        first
          | (simp only [if_pos yd1] at hQ; exact vl_of (hQ σ hC (Fi.rf _ _ _)) (hC.b p bp).1)
          | (simp only [if_neg yd1] at hQ; exact vl_of (hQ σ hC (Fi.rf _ _ _)) (hC.k p bp).1)
      · refine A.al0 eX4_person_23 ?_
        refine A.getR eX4_person_24 fX4_14 ko0 kr0_0 ?_
        refine A.il1 eX4_person_27 ?_
        refine A.cVi1 eX4_person_28 oX0_first kX4_91 ko1 (sX0_first (u := 1) (Or.inl rfl) (show p < lm 1 from Nat.lt_of_lt_of_le bp (by first | exact n8 | exact q6)) ?_)
        refine A.goto eX4_person_31 ?_
        refine B.iret eX4_person_42 ?_
        first
          | (simp only [if_pos yd1] at hQ; exact vl_of (hQ σ hC (Fi.rf _ _ _)) (hC.b p bp).1)
          | (simp only [if_neg yd1] at hQ; exact vl_of (hQ σ hC (Fi.rf _ _ _)) (hC.k p bp).1)
    · exact absurd ⟨by rw [nI_ti (by omega)]; omega, by rw [nI_ti (by omega)]; omega⟩ c2
set_option maxRecDepth 100000 in
set_option maxHeartbeats 4000000 in
theorem bX4_person {G : GW} {σ : St} {K : Int32 → St → Prop} {x : XS} {p w : Int32} (hC : CI x σ) (hb : ¬ (ck p (xp x) ∧ ck w 2)) (hQ : K (-2) σ) : Ci G (r0 2 42) mX4_person [rf G 0, .int p, .int w] σ K := by
  refine Ci.of [some (rf G 0), some (.int p), some (.int w)] ?_
  have n8 := hC.np8
  have q6 := hC.nq6
  refine A.al0 eX4_person_0 ?_
  refine A.il1 eX4_person_1 ?_
  refine A.cVi1 eX4_person_2 oX4_isPerson kX4_87 ko0 (sX4_isPerson hC.np hC.np8 ?_)
  refine A.if_eqB eX4_person_5 (fun c1 => ?_) (fun c1 => ?_)
  · refine A.bipush (v := -2) eX4_person_16 (by decide) ?_
    refine B.iret eX4_person_18 ?_
    exact hQ
  · refine A.il2 eX4_person_8 ?_
    refine A.iconst (v := nI 2) eX4_person_9 (by decide) ?_
    refine A.cSi2 eX4_person_10 oX4_isBelow kX4_67 (sX4_isBelowIN (b := 2) (by omega) ?_)
    refine A.if_neB eX4_person_13 (fun c2 => ?_) (fun c2 => ?_)
    · exact absurd ⟨c1, c2⟩ hb
    · refine A.bipush (v := -2) eX4_person_16 (by decide) ?_
      refine B.iret eX4_person_18 ?_
      exact hQ
theorem aX4_person {G : GW} {σ : St} {K : Int32 → St → Prop} {x : XS} {p w : Int32} (hC : CI x σ) (hQ : ∀ τ : St, CI x τ → Fi 0 41 σ τ → K (Rperson x p w) τ) : Ci G (r0 2 42) mX4_person [rf G 0, .int p, .int w] σ K := by
  have n8 := hC.np8
  have q6 := hC.nq6
  by_cases hb : ck p (xp x) ∧ ck w 2
  · have hR : Rperson x p w = _ := if_pos hb
    rw [hR] at hQ
    obtain ⟨p, bp, rfl⟩ := i_nat hb.1.1 hb.1.2
    obtain ⟨w, bw, rfl⟩ := i_nat hb.2.1 hb.2.2
    simp only [nI_clamp (n := p) (by omega), nI_clamp (n := w) (by omega)] at hQ
    exact sX4_person hC bp bw hQ
  · have hR : Rperson x p w = _ := if_neg hb
    rw [hR] at hQ
    exact bX4_person hC hb (hQ σ hC (Fi.rf _ _ _))
def Rplace (x : XS) (p w : Int32) : Int32 := if ck p (xq x) ∧ ck w 2 then (if w.toNatClampNeg = 0 then nI (xlo x p.toNatClampNeg) else nI (xhi x p.toNatClampNeg)) else -2
set_option maxRecDepth 100000 in
set_option maxHeartbeats 4000000 in
theorem sX4_place {G : GW} {σ : St} {K : Int32 → St → Prop} {x : XS} {p w : Nat} (hC : CI x σ) (bp : p < (xq x)) (bw : w < 2) (hQ : ∀ τ : St, CI x τ → Fi 0 41 σ τ → K ((if w = 0 then nI (xlo x p) else nI (xhi x p))) τ) : Ci G (r0 2 42) mX4_place [rf G 0, .int (nI p), .int (nI w)] σ K := by
  refine Ci.of [some (rf G 0), some (.int (nI p)), some (.int (nI w))] ?_
  have n8 := hC.np8
  have q6 := hC.nq6
  refine A.al0 eX4_place_0 ?_
  refine A.il1 eX4_place_1 ?_
  refine A.cVi1 eX4_place_2 oX4_isPlace kX4_98 ko0 (sX4_isPlace hC.nq hC.nq6 ?_)
  refine A.if_eqB eX4_place_5 (fun c1 => ?_) (fun c1 => ?_)
  · exact absurd ⟨by rw [nI_ti (by omega)]; omega, by rw [nI_ti (by omega)]; omega⟩ c1
  · refine A.il2 eX4_place_8 ?_
    refine A.iconst (v := nI 2) eX4_place_9 (by decide) ?_
    refine A.cSi2 eX4_place_10 oX4_isBelow kX4_67 (sX4_isBelowIN (b := 2) (by omega) ?_)
    refine A.if_neB eX4_place_13 (fun c2 => ?_) (fun c2 => ?_)
    · refine A.il2 eX4_place_19 ?_
      refine A.if_neN eX4_place_20 (fun yd1 => ?_) (fun yd1 => ?_)
      · refine A.al0 eX4_place_34 ?_
        refine A.getR eX4_place_35 fX4_18 ko0 kr0_1 ?_
        refine A.il1 eX4_place_38 ?_
        refine A.cVi1 eX4_place_39 oX0_second kX4_95 ko5 (sX0_second (u := 5) (Or.inr rfl) (show p < lm 5 from Nat.lt_of_lt_of_le bp (by first | exact n8 | exact q6)) ?_)
        refine B.iret eX4_place_42 ?_
        first
          | (simp only [if_pos yd1] at hQ; exact vl_of (hQ σ hC (Fi.rf _ _ _)) (hC.lo p bp))
          | (simp only [if_neg yd1] at hQ; exact vl_of (hQ σ hC (Fi.rf _ _ _)) (hC.hi p bp))
      · refine A.al0 eX4_place_23 ?_
        refine A.getR eX4_place_24 fX4_18 ko0 kr0_1 ?_
        refine A.il1 eX4_place_27 ?_
        refine A.cVi1 eX4_place_28 oX0_first kX4_91 ko5 (sX0_first (u := 5) (Or.inr rfl) (show p < lm 5 from Nat.lt_of_lt_of_le bp (by first | exact n8 | exact q6)) ?_)
        refine A.goto eX4_place_31 ?_
        refine B.iret eX4_place_42 ?_
        first
          | (simp only [if_pos yd1] at hQ; exact vl_of (hQ σ hC (Fi.rf _ _ _)) (hC.lo p bp))
          | (simp only [if_neg yd1] at hQ; exact vl_of (hQ σ hC (Fi.rf _ _ _)) (hC.hi p bp))
    · exact absurd ⟨by rw [nI_ti (by omega)]; omega, by rw [nI_ti (by omega)]; omega⟩ c2
set_option maxRecDepth 100000 in
set_option maxHeartbeats 4000000 in
theorem bX4_place {G : GW} {σ : St} {K : Int32 → St → Prop} {x : XS} {p w : Int32} (hC : CI x σ) (hb : ¬ (ck p (xq x) ∧ ck w 2)) (hQ : K (-2) σ) : Ci G (r0 2 42) mX4_place [rf G 0, .int p, .int w] σ K := by
  refine Ci.of [some (rf G 0), some (.int p), some (.int w)] ?_
  have n8 := hC.np8
  have q6 := hC.nq6
  refine A.al0 eX4_place_0 ?_
  refine A.il1 eX4_place_1 ?_
  refine A.cVi1 eX4_place_2 oX4_isPlace kX4_98 ko0 (sX4_isPlace hC.nq hC.nq6 ?_)
  refine A.if_eqB eX4_place_5 (fun c1 => ?_) (fun c1 => ?_)
  · refine A.bipush (v := -2) eX4_place_16 (by decide) ?_
    refine B.iret eX4_place_18 ?_
    exact hQ
  · refine A.il2 eX4_place_8 ?_
    refine A.iconst (v := nI 2) eX4_place_9 (by decide) ?_
    refine A.cSi2 eX4_place_10 oX4_isBelow kX4_67 (sX4_isBelowIN (b := 2) (by omega) ?_)
    refine A.if_neB eX4_place_13 (fun c2 => ?_) (fun c2 => ?_)
    · exact absurd ⟨c1, c2⟩ hb
    · refine A.bipush (v := -2) eX4_place_16 (by decide) ?_
      refine B.iret eX4_place_18 ?_
      exact hQ
theorem aX4_place {G : GW} {σ : St} {K : Int32 → St → Prop} {x : XS} {p w : Int32} (hC : CI x σ) (hQ : ∀ τ : St, CI x τ → Fi 0 41 σ τ → K (Rplace x p w) τ) : Ci G (r0 2 42) mX4_place [rf G 0, .int p, .int w] σ K := by
  have n8 := hC.np8
  have q6 := hC.nq6
  by_cases hb : ck p (xq x) ∧ ck w 2
  · have hR : Rplace x p w = _ := if_pos hb
    rw [hR] at hQ
    obtain ⟨p, bp, rfl⟩ := i_nat hb.1.1 hb.1.2
    obtain ⟨w, bw, rfl⟩ := i_nat hb.2.1 hb.2.2
    simp only [nI_clamp (n := p) (by omega), nI_clamp (n := w) (by omega)] at hQ
    exact sX4_place hC bp bw hQ
  · have hR : Rplace x p w = _ := if_neg hb
    rw [hR] at hQ
    exact bX4_place hC hb (hQ σ hC (Fi.rf _ _ _))
