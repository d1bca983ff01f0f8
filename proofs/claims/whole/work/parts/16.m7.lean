/-! ===== what is told: the state of both, in plain words ===== -/
abbrev X3 : Type := Nat × (Nat → Nat) × (Nat → Nat) × (Nat → Nat)
abbrev XS : Type := (Nat × (Nat → Nat)) × (Nat × (Nat → Nat)) × X3 × X3 × X3 × ((Nat → Option Nat) × (Nat → Nat) × (Nat → Nat → Int32)) × Nat
def tL (x : XS) (u : Nat) : Nat := if u = 1 then x.1.1 else x.2.1.1
def tX (x : XS) (u : Nat) : Nat → Nat := if u = 1 then x.1.2 else x.2.1.2
def xg (x : XS) : X3 := x.2.2.1
def xs (x : XS) : X3 := x.2.2.2.1
def xf (x : XS) : X3 := x.2.2.2.2.1
def xh (x : XS) : (Nat → Option Nat) × (Nat → Nat) × (Nat → Nat → Int32) := x.2.2.2.2.2.1
def xl (x : XS) : Nat := x.2.2.2.2.2.2
def xp (x : XS) : Nat := ents 1 (tX x 1) (tL x 1)
def xq (x : XS) : Nat := ents 5 (tX x 5) (tL x 5)
def xb (x : XS) (i : Nat) : Nat := tX x 1 (3 * i) - 48
def xk (x : XS) (i : Nat) : Nat := sec 1 (tX x 1 (3 * i + 1))
def xlo (x : XS) (i : Nat) : Nat := tX x 5 (3 * i) - 48
def xhi (x : XS) (i : Nat) : Nat := sec 5 (tX x 5 (3 * i + 1))
def xT (x : XS) : Nat → Nat → Int32 := tlf (xg x).2.1 (xg x).2.2.1 (xg x).2.2.2 (xg x).1
def xa (x : XS) (h p : Nat) : Int32 := plf (xT x) (xq x) h p
def xr (x : XS) : Nat → Nat → Nat := brf (xk x) (xa x) (xb x) (xp x)
def FE (σ : St) (nf : Nat) (fh fp fs : Nat → Nat) : Prop := σ.1 17 3 = nI nf ∧ nf ≤ 8 ∧ ∀ k, k < nf → (σ.1 18 k = nI (fh k) ∧ fh k < 24) ∧ (σ.1 19 k = nI (fp k) ∧ fp k < 6) ∧ (σ.1 20 k = nI (fs k) ∧ fs k < 2)
def SH (σ : St) (f : Nat → Option Nat) (z : Nat → Nat) (it : Nat → Nat → Int32) : Prop := ∀ i, i < 4 → (f i = none ∧ σ.1 (22 + 2 * i) 1 = -1) ∨ ∃ g, f i = some g ∧ g < 3 ∧ σ.1 (22 + 2 * i) 1 = nI g ∧ σ.1 (22 + 2 * i) 2 = nI (z i) ∧ z i ≤ 60 ∧ ∀ j, j < z i → σ.1 (22 + 2 * i + 1) j = it i j
/-- the valley as told, run -/
def FV (x : XS) (σ : St) : Prop := ∀ h, h < 24 → HB σ 30 h (xp x) (xa x h) (xr x h)
def CI (x : XS) (σ : St) : Prop := LI σ 1 (tL x 1) (tX x 1) ∧ Lq σ 1 (tL x 1) (tX x 1) ∧ LI σ 5 (tL x 5) (tX x 5) ∧ Lq σ 5 (tL x 5) (tX x 5) ∧ GO σ (xg x).1 (xg x).2.1 (xg x).2.2.1 (xg x).2.2.2 ∧ SE σ (xs x).1 (xs x).2.1 (xs x).2.2.1 (xs x).2.2.2 ∧ FE σ (xf x).1 (xf x).2.1 (xf x).2.2.1 (xf x).2.2.2 ∧ SH σ (xh x).1 (xh x).2.1 (xh x).2.2 ∧ σ.1 0 9 = nI (xl x) ∧ (σ.1 0 8 = nI 0 ∨ (σ.1 0 8 = nI 1 ∧ FV x σ))
theorem LI.cg {σ τ : St} {u n : Nat} {f : Nat → Nat} (h : ∀ k, u ≤ k → k ≤ u + 3 → τ.1 k = σ.1 k) (g : LI σ u n f) : LI τ u n f := by
  unfold LI
  rw [h u (by omega) (by omega), h (u + 1) (by omega) (by omega)]
  exact g
theorem Lq.cg {σ τ : St} {u n : Nat} {f : Nat → Nat} (h : ∀ k, u ≤ k → k ≤ u + 3 → τ.1 k = σ.1 k) (g : Lq σ u n f) : Lq τ u n f := by
  unfold Lq
  rw [h u (by omega) (by omega), h (u + 2) (by omega) (by omega), h (u + 3) (by omega) (by omega)]
  exact g
theorem GO.cg {σ τ : St} {n : Nat} {a b c : Nat → Nat} (h : ∀ k, 9 ≤ k → k ≤ 12 → τ.1 k = σ.1 k) (g : GO σ n a b c) : GO τ n a b c := by
  unfold GO
  rw [h 9 (by omega) (by omega), h 10 (by omega) (by omega), h 11 (by omega) (by omega), h 12 (by omega) (by omega)]
  exact g
theorem SE.cg {σ τ : St} {n : Nat} {a b c : Nat → Nat} (h : ∀ k, 13 ≤ k → k ≤ 16 → τ.1 k = σ.1 k) (g : SE σ n a b c) : SE τ n a b c := by
  unfold SE
  rw [h 13 (by omega) (by omega), h 14 (by omega) (by omega), h 15 (by omega) (by omega), h 16 (by omega) (by omega)]
  exact g
theorem FE.cg {σ τ : St} {n : Nat} {a b c : Nat → Nat} (h : ∀ k, 17 ≤ k → k ≤ 20 → τ.1 k = σ.1 k) (g : FE σ n a b c) : FE τ n a b c := by
  unfold FE
  rw [h 17 (by omega) (by omega), h 18 (by omega) (by omega), h 19 (by omega) (by omega), h 20 (by omega) (by omega)]
  exact g
theorem SH.cg {σ τ : St} {f : Nat → Option Nat} {z : Nat → Nat} {it : Nat → Nat → Int32} (h : ∀ k, 22 ≤ k → k ≤ 29 → τ.1 k = σ.1 k) (g : SH σ f z it) : SH τ f z it := by
  intro i hi
  rw [h (22 + 2 * i) (by omega) (by omega), h (22 + 2 * i + 1) (by omega) (by omega)]
  exact g i hi
theorem FV.cg {x : XS} {σ τ : St} (h : ∀ k, 31 ≤ k → k ≤ 32 → τ.1 k = σ.1 k) (g : FV x σ) : FV x τ := by
  intro a ha p hp
  rw [show (30 + 1 : Nat) = 31 from rfl, show (30 + 2 : Nat) = 32 from rfl, h 31 (by omega) (by omega), h 32 (by omega) (by omega)]
  exact g a ha p hp
theorem ents_ok {u : Nat} {tx : Nat → Nat} {n j : Nat} (h : j < ents u tx n) : (3 * j + 1 < n) ∧ ∀ k, k < n → okb u tx k = true := by
  unfold ents at h
  split at h
  · omega
  · next h1 =>
    have := fbad_le u tx n
    have hn : fbad u tx n = n := by omega
    split at h
    · refine ⟨by omega, fun k hk => fbad_ok (n := n) k (by omega)⟩
    · omega
section
variable {x : XS} {σ : St}
theorem CI.np (h : CI x σ) : σ.1 1 5 = nI (xp x) := h.2.1.2.1
theorem CI.np8 (h : CI x σ) : xp x ≤ 8 := ents_le h.1.2.2.1
theorem CI.nq (h : CI x σ) : σ.1 5 5 = nI (xq x) := h.2.2.2.1.2.1
theorem CI.nq6 (h : CI x σ) : xq x ≤ 6 := ents_le h.2.2.1.2.2.1
theorem xb_le {i : Nat} (h : i < xp x) : xb x i ≤ 9 := by
  obtain ⟨h1, h2⟩ := ents_ok h
  have := (okb0 (u := 1) (tx := tX x 1) (i := 3 * i) (by omega)).mp (h2 (3 * i) (by omega))
  unfold xb; omega
theorem xk_le (i : Nat) : xk x i ≤ 2 := by unfold xk sec; split <;> (try split) <;> (try split) <;> omega
theorem xlo_le {i : Nat} (h : i < xq x) : xlo x i ≤ 9 := by
  obtain ⟨h1, h2⟩ := ents_ok h
  have := (okb0 (u := 5) (tx := tX x 5) (i := 3 * i) (by omega)).mp (h2 (3 * i) (by omega))
  unfold xlo; omega
theorem xhi_le {i : Nat} (h : i < xq x) : xhi x i ≤ 9 := by
  obtain ⟨h1, h2⟩ := ents_ok h
  have := (okb1' (u := 5) (tx := tX x 5) (i := 3 * i + 1) (by omega) (by omega)).mp (h2 (3 * i + 1) (by omega))
  unfold xhi sec; rw [if_neg (by omega)]; omega
theorem CI.b (h : CI x σ) : ∀ p, p < xp x → σ.1 3 p = nI (xb x p) ∧ xb x p ≤ 9 := fun p hp => ⟨(h.2.1.2.2 p hp).1, xb_le hp⟩
theorem CI.k (h : CI x σ) : ∀ p, p < xp x → σ.1 4 p = nI (xk x p) ∧ xk x p ≤ 2 := fun p hp => ⟨(h.2.1.2.2 p hp).2, xk_le p⟩
theorem CI.lo (h : CI x σ) : ∀ p, p < xq x → σ.1 7 p = nI (xlo x p) := fun p hp => (h.2.2.2.1.2.2 p hp).1
theorem CI.hi (h : CI x σ) : ∀ p, p < xq x → σ.1 8 p = nI (xhi x p) := fun p hp => (h.2.2.2.1.2.2 p hp).2
theorem CI.go (h : CI x σ) : GO σ (xg x).1 (xg x).2.1 (xg x).2.2.1 (xg x).2.2.2 := h.2.2.2.2.1
theorem CI.se (h : CI x σ) : SE σ (xs x).1 (xs x).2.1 (xs x).2.2.1 (xs x).2.2.2 := h.2.2.2.2.2.1
theorem CI.fe (h : CI x σ) : FE σ (xf x).1 (xf x).2.1 (xf x).2.2.1 (xf x).2.2.2 := h.2.2.2.2.2.2.1
theorem CI.sh (h : CI x σ) : SH σ (xh x).1 (xh x).2.1 (xh x).2.2 := h.2.2.2.2.2.2.2.1
/-- rows of the trial alone have changed -/
theorem CI.scr {τ : St} (h : CI x σ) (hF : Fi 36 41 σ τ) : CI x τ := by
  obtain ⟨h1, h2, h3, h4, h5, h6, h7, h8, h9, h10⟩ := h
  refine ⟨h1.cg (fun k _ _ => hF.1 k (by omega)), h2.cg (fun k _ _ => hF.1 k (by omega)), h3.cg (fun k _ _ => hF.1 k (by omega)), h4.cg (fun k _ _ => hF.1 k (by omega)), h5.cg (fun k _ _ => hF.1 k (by omega)), h6.cg (fun k _ _ => hF.1 k (by omega)), h7.cg (fun k _ _ => hF.1 k (by omega)), h8.cg (fun k _ _ => hF.1 k (by omega)), by rw [hF.1 0 (by omega)]; exact h9, ?_⟩
  rw [hF.1 0 (by omega)]
  exact h10.imp id (fun ⟨a, b⟩ => ⟨a, b.cg (fun k _ _ => hF.1 k (by omega))⟩)
/-- the valley as told is run anew -/
theorem CI.run {τ : St} (h : CI x σ) (hF : Fi 30 35 σ τ) (hV : FV x τ) : CI x (ur τ 0 (upd (τ.1 0) 8 (nI 1))) := by
  obtain ⟨h1, h2, h3, h4, h5, h6, h7, h8, h9, h10⟩ := h
  have e : ∀ k, k ≠ 0 → (k < 30 ∨ 35 < k) → (ur τ 0 (upd (τ.1 0) 8 (nI 1))).1 k = σ.1 k := fun k a b => (ur_n a).trans (hF.1 k b)
  refine ⟨h1.cg (fun k _ _ => e k (by omega) (by omega)), h2.cg (fun k _ _ => e k (by omega) (by omega)), h3.cg (fun k _ _ => e k (by omega) (by omega)), h4.cg (fun k _ _ => e k (by omega) (by omega)), h5.cg (fun k _ _ => e k (by omega) (by omega)), h6.cg (fun k _ _ => e k (by omega) (by omega)), h7.cg (fun k _ _ => e k (by omega) (by omega)), h8.cg (fun k _ _ => e k (by omega) (by omega)), ?_, Or.inr ⟨?_, hV.cg (fun k _ _ => ur_n (by omega))⟩⟩
  · rw [ur_s, upd_n (by omega), hF.1 0 (by omega)]; exact h9
  · rw [ur_s, upd_s]
end
theorem wq_eq {T T' : Nat → Nat → Int32} {la np : Nat} (h : ∀ a p, a ≤ la → p < np → T a p = T' a p) {p : Nat} (hp : p < np) : ∀ n, n ≤ la + 1 → wq T p n = wq T' p n := by
  intro n
  induction n with
  | zero => intro _; rfl
  | succ n ih =>
    intro hn
    unfold wq
    rw [ih (by omega), h n p (by omega) hp]
theorem plf_eq {T T' : Nat → Nat → Int32} {la np nq : Nat} (h : ∀ a p, a ≤ la → p < np → T a p = T' a p) {a p : Nat} (ha : a ≤ la) (hp : p < np) : plf T nq a p = plf T' nq a p := by
  unfold plf
  rw [wq_eq h hp (a + 1) (by omega)]
set_option maxRecDepth 100000 in
set_option maxHeartbeats 4000000 in
theorem sX4_valley {G : GW} {σ : St} {K : Value → St → Prop} {x : XS} (hC : CI x σ) (hQ : ∀ τ : St, CI x τ → FV x τ → Fi 0 41 σ τ → K (rf G 30) τ) : Ca G (r0 3 66) mX4_valley [rf G 0] σ K := by
  refine Ca.of [some (rf G 0)] ?_
  refine A.al0 eX4_valley_0 ?_
  refine A.getI eX4_valley_1 fX4_55 ko0 ?_
  refine A.if_ne eX4_valley_4 (fun c1 => ?_) (fun c1 => ?_)
  · refine A.al0 eX4_valley_35 ?_
    refine A.getR eX4_valley_36 fX4_48 ko0 kr0_6 ?_
    refine B.aretR eX4_valley_39 rfl ?_
    first
      | (rcases hC.2.2.2.2.2.2.2.2.2 with z | ⟨z, hF⟩
         · exact absurd z c1
         · exact hQ σ hC hF (Fi.rf _ _ _))
      | (have hF : Fi 30 35 σ τ3 := ((a1.mo (by omega) (by omega)).tr (b1.mo (by omega) (by omega))).tr (d1.mo (by omega) (by omega))
         have hV : FV x τ3 := fun h hh => d2 h (by omega)
         exact hQ _ (hC.run hF hV) (hV.cg (fun k _ _ => ur_n (by omega))) ((hF.mo (by omega) (by omega)).ur (by omega) (by omega)))
  · refine A.al0 eX4_valley_7 ?_
    refine A.getR eX4_valley_8 fX4_48 ko0 kr0_6 ?_
    refine A.bipush (v := nI 23) eX4_valley_11 (by decide) ?_
    refine A.cVv1 eX4_valley_13 oX3_open kX4_198 ko30 (sX3_open (v := 30) (la := 23) (Or.inl rfl) (by omega) hC.np hC.np8 hC.go (fun τ a1 a2 a3 a4 => ?_))
    refine A.al0 eX4_valley_16 ?_
    refine A.getR eX4_valley_17 fX4_48 ko0 kr0_6 ?_
    refine A.cVv0 eX4_valley_20 oX3_walk kX4_201 ko30 (sX3_walk (v := 30) (la := 23) (nq := xq x) (Or.inl rfl) a2 (by omega) (by rw [a1.1 1 (by omega)]; exact hC.np) hC.np8 (by rw [a1.1 5 (by omega)]; exact hC.nq) hC.nq6 (fun τ2 b1 b2 => ?_))
    refine A.al0 eX4_valley_23 ?_
    refine A.getR eX4_valley_24 fX4_48 ko0 kr0_6 ?_
    refine A.cVv0 eX4_valley_27 oX3_live kX4_207 ko30 (sX3_live (v := 30) (la := 23) (nq := xq x) (a := xa x) (b0 := xb x) (kd := xk x) (Or.inl rfl) (by rw [b1.1 30 (by omega)]; exact a2) (by omega) (by rw [b1.1 1 (by omega), a1.1 1 (by omega)]; exact hC.np) hC.np8 (by rw [b1.1 5 (by omega), a1.1 5 (by omega)]; exact hC.nq) hC.nq6 (fun h p hh hp => by rw [b2 h p hh hp]; exact plf_eq (fun h p hh hp => a3 h p hh (by have := hC.np8; omega)) hh hp) (fun h _ => plf_PA) (fun p hp => ⟨by rw [b1.1 32 (by omega), show (32 : Nat) = 30 + 2 from rfl, a4 p hp]; exact (hC.b p hp).1, (hC.b p hp).2⟩) (fun p hp => ⟨by rw [b1.1 4 (by omega), a1.1 4 (by omega)]; exact (hC.k p hp).1, (hC.k p hp).2⟩) (fun τ3 d1 d2 => ?_))
    refine A.al0 eX4_valley_30 ?_
    refine A.iconst (v := nI 1) eX4_valley_31 (by decide) ?_
    refine A.putZ eX4_valley_32 pX4_55 ko0 (by decide) ?_
    refine A.al0 eX4_valley_35 ?_
    refine A.getR eX4_valley_36 fX4_48 ko0 kr0_6 ?_
    refine B.aretR eX4_valley_39 rfl ?_
    first
      | (rcases hC.2.2.2.2.2.2.2.2.2 with z | ⟨z, hF⟩
         · exact absurd z c1
         · exact hQ σ hC hF (Fi.rf _ _ _))
      | (have hF : Fi 30 35 σ τ3 := ((a1.mo (by omega) (by omega)).tr (b1.mo (by omega) (by omega))).tr (d1.mo (by omega) (by omega))
         have hV : FV x τ3 := fun h hh => d2 h (by omega)
         exact hQ _ (hC.run hF hV) (hV.cg (fun k _ _ => ur_n (by omega))) ((hF.mo (by omega) (by omega)).ur (by omega) (by omega)))
