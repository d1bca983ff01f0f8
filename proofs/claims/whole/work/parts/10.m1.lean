/-! ===== plain words for texts ===== -/
theorem st_of {K : St → Prop} {a b : St} (h : K b) (e : a = b) : K a := by rw [e]; exact h
theorem st_of2 {α : Type} {K : α → St → Prop} {r r' : α} {a b : St} (h : K r' b) (er : r = r') (e : a = b) : K r a := by rw [e, er]; exact h
theorem vl_of {α : Type} {K : α → St → Prop} {r r' : α} {a : St} (h : K r' a) (er : r = r') : K r a := by rw [er]; exact h
def tt (u : Nat) : Nat := if u = 1 then 0 else 1
def figI (b : Nat) : Int32 := if 48 ≤ b ∧ b ≤ 57 then nI (b - 48) else -1
def kndI (b : Nat) : Int32 := if b = 111 then nI 0 else if b = 104 then nI 1 else if b = 99 then nI 2 else -1
def isum (f : Nat → Int32) : Nat → Int32
  | 0 => 0
  | n + 1 => isum f n + f n
/-- byte i goes on, if all before it did -/
def okb (u : Nat) (tx : Nat → Nat) (i : Nat) : Bool :=
  if i % 3 = 2 then decide (tx i = 59) else if i % 3 = 0 then decide (48 ≤ tx i ∧ tx i ≤ 57) else if u = 1 then decide (tx i = 111 ∨ tx i = 104 ∨ tx i = 99) else decide ((48 ≤ tx i ∧ tx i ≤ 57) ∧ tx (i - 1) ≤ tx i)
/-- the first place below n that is not well, or n -/
def fbad (u : Nat) (tx : Nat → Nat) : Nat → Nat
  | 0 => 0
  | n + 1 => if fbad u tx n < n then fbad u tx n else if okb u tx n then n + 1 else n
theorem fbad_le (u : Nat) (tx : Nat → Nat) : ∀ n, fbad u tx n ≤ n := by
  intro n
  induction n with
  | zero => exact Nat.le_refl _
  | succ n ih => unfold fbad; split <;> (try split) <;> omega
theorem fbad_all {u : Nat} {tx : Nat → Nat} : ∀ {n : Nat}, (∀ i, i < n → okb u tx i = true) → fbad u tx n = n := by
  intro n
  induction n with
  | zero => intro _; rfl
  | succ n ih =>
    intro h
    have h1 := ih (fun i hi => h i (by omega))
    unfold fbad
    rw [h1, if_neg (by omega), if_pos (h n (by omega))]
theorem fbad_stay {u : Nat} {tx : Nat → Nat} {m : Nat} (h : fbad u tx m < m) : ∀ n, m ≤ n → fbad u tx n = fbad u tx m := by
  intro n hn
  induction n with
  | zero => have : m = 0 := by omega
            subst this; rfl
  | succ n ih =>
    rcases Nat.lt_or_ge n m with q | q
    · have : m = n + 1 := by omega
      rw [this]
    · have h1 := ih q
      show (if fbad u tx n < n then fbad u tx n else if okb u tx n then n + 1 else n) = _
      rw [h1, if_pos (by omega)]
theorem fbad_first {u : Nat} {tx : Nat → Nat} {i n : Nat} (h : ∀ k, k < i → okb u tx k = true) (hi : i < n) (hb : okb u tx i = false) : fbad u tx n = i := by
  have h1 : fbad u tx (i + 1) = i := by
    unfold fbad
    rw [fbad_all h, if_neg (by omega), if_neg (by simp [hb])]
  rw [fbad_stay (m := i + 1) (by omega) n (by omega), h1]
theorem fbad_ok {u : Nat} {tx : Nat → Nat} : ∀ {n : Nat}, ∀ k, k < fbad u tx n → okb u tx k = true := by
  intro n
  induction n with
  | zero => intro k hk; simp [fbad] at hk
  | succ n ih =>
    intro k hk
    unfold fbad at hk
    split at hk
    · exact ih k hk
    · next h1 =>
      have := fbad_le u tx n
      split at hk
      · next h2 =>
        rcases Nat.lt_or_ge k n with q | q
        · exact ih k (by omega)
        · rw [show k = n by omega]; exact h2
      · exact ih k (by omega)
theorem fbad_no {u : Nat} {tx : Nat → Nat} : ∀ {n : Nat}, fbad u tx n < n → okb u tx (fbad u tx n) = false := by
  intro n
  induction n with
  | zero => intro h; omega
  | succ n ih =>
    intro h
    unfold fbad at h ⊢
    split
    · next h1 => exact ih h1
    · next h1 =>
      rw [if_neg h1] at h
      split
      · next h2 => rw [if_pos h2] at h; omega
      · next h2 => simpa using h2
/-- the fault of a text of n bytes: -1 if there is none -/
def flt (u : Nat) (tx : Nat → Nat) (n : Nat) : Int := if fbad u tx n < n then (fbad u tx n : Int) else if n = 0 ∨ n % 3 = 2 then -1 else (n : Int)
/-- how many things it tells -/
def ents (u : Nat) (tx : Nat → Nat) (n : Nat) : Nat := if fbad u tx n < n then 0 else if n = 0 ∨ n % 3 = 2 then (n + 1) / 3 else 0
/-- what a thing's second byte tells -/
def sec (u b : Nat) : Nat := if u = 1 then (if b = 111 then 0 else if b = 104 then 1 else 2) else b - 48
/-- a listing: its text, and what was read of it -/
def LI (σ : St) (u n : Nat) (tx : Nat → Nat) : Prop := σ.1 u 0 = nI (tt u) ∧ σ.1 u 4 = nI n ∧ n ≤ lb u ∧ ∀ i, i < n → σ.1 (u + 1) i = nI (tx i) ∧ tx i < 256
def Lq (σ : St) (u n : Nat) (tx : Nat → Nat) : Prop := σ.1 u 6 = zI (flt u tx n) ∧ σ.1 u 5 = nI (ents u tx n) ∧ ∀ j, j < ents u tx n → σ.1 (u + 2) j = nI (tx (3 * j) - 48) ∧ σ.1 (u + 3) j = nI (sec u (tx (3 * j + 1)))
theorem ents_le {u : Nat} {tx : Nat → Nat} {n : Nat} (h : n ≤ lb u) : ents u tx n ≤ lm u := by
  have := lb_le u
  unfold ents
  split
  · omega
  · split <;> omega
theorem nI_nm1 {n : Nat} (h : n < 2147483648) : ¬ nI n = -1 := by
  intro e
  have := congrArg Int32.toInt e
  rw [nI_ti h] at this
  have e2 : (-1 : Int32).toInt = -1 := by decide
  omega
theorem figI_m1 {b : Nat} (hb : b < 256) : figI b = -1 ↔ ¬ (48 ≤ b ∧ b ≤ 57) := by
  unfold figI
  split
  · next h => exact ⟨fun e => absurd e (nI_nm1 (by omega)), fun e => absurd h e⟩
  · next h => exact ⟨fun _ => h, fun _ => rfl⟩
theorem figI_ok {b : Nat} (h : 48 ≤ b ∧ b ≤ 57) : figI b = nI (b - 48) := by unfold figI; rw [if_pos h]
theorem kndI_m1 {b : Nat} : kndI b = -1 ↔ ¬ (b = 111 ∨ b = 104 ∨ b = 99) := by
  unfold kndI
  split
  · next h => exact ⟨fun e => absurd e (nI_nm1 (by omega)), fun e => absurd (Or.inl h) e⟩
  · split
    · next h => exact ⟨fun e => absurd e (nI_nm1 (by omega)), fun e => absurd (Or.inr (Or.inl h)) e⟩
    · split
      · next h => exact ⟨fun e => absurd e (nI_nm1 (by omega)), fun e => absurd (Or.inr (Or.inr h)) e⟩
      · exact ⟨fun _ => by omega, fun _ => rfl⟩
theorem kndI_ok {b : Nat} (h : b = 111 ∨ b = 104 ∨ b = 99) : kndI b = nI (sec 1 b) := by
  rcases h with rfl | rfl | rfl <;> rfl
/-- what goesOn does to the rows -/
def goS (u : Nat) (tx : Nat → Nat) (i : Nat) (σ : St) : St := if i % 3 = 2 then σ else if i % 3 = 0 then ur σ (u + 2) (upd (σ.1 (u + 2)) (i / 3) (figI (tx i))) else ur σ (u + 3) (upd (σ.1 (u + 3)) (i / 3) (if u = 1 then kndI (tx i) else figI (tx i)))
/-- behind i bytes that all were well -/
def FI (σ τ : St) (u : Nat) (tx : Nat → Nat) (i : Nat) : Prop := (∀ k, k ≠ u + 2 → k ≠ u + 3 → τ.1 k = σ.1 k) ∧ τ.2 = σ.2 ∧ (∀ j, 3 * j < i → τ.1 (u + 2) j = nI (tx (3 * j) - 48)) ∧ (∀ j, 3 * j + 1 < i → τ.1 (u + 3) j = nI (sec u (tx (3 * j + 1)))) ∧ ∀ k, k < i → okb u tx k = true
theorem okb0 {u : Nat} {tx : Nat → Nat} {i : Nat} (h : i % 3 = 0) : okb u tx i = true ↔ 48 ≤ tx i ∧ tx i ≤ 57 := by
  unfold okb; rw [if_neg (by omega), if_pos h]; simp
theorem okb1 {u : Nat} {tx : Nat → Nat} {i : Nat} (h : i % 3 = 1) (hu : u = 1) : okb u tx i = true ↔ (tx i = 111 ∨ tx i = 104 ∨ tx i = 99) := by
  unfold okb; rw [if_neg (by omega), if_neg (by omega), if_pos hu]; simp
theorem okb1' {u : Nat} {tx : Nat → Nat} {i : Nat} (h : i % 3 = 1) (hu : ¬ u = 1) : okb u tx i = true ↔ ((48 ≤ tx i ∧ tx i ≤ 57) ∧ tx (i - 1) ≤ tx i) := by
  unfold okb; rw [if_neg (by omega), if_neg (by omega), if_neg hu]; simp
theorem okb2 {u : Nat} {tx : Nat → Nat} {i : Nat} (h : i % 3 = 2) : okb u tx i = true ↔ tx i = 59 := by
  unfold okb; rw [if_pos h]; simp
theorem goS_frame {u : Nat} {tx : Nat → Nat} {i : Nat} {σ : St} : (∀ k, k ≠ u + 2 → k ≠ u + 3 → (goS u tx i σ).1 k = σ.1 k) ∧ (goS u tx i σ).2 = σ.2 := by
  unfold goS
  split
  · exact ⟨fun _ _ _ => rfl, rfl⟩
  · split
    · exact ⟨fun k h1 _ => ur_n h1, rfl⟩
    · exact ⟨fun k _ h1 => ur_n h1, rfl⟩
theorem FI.step {σ τ : St} {u : Nat} {tx : Nat → Nat} {i : Nat} (h : FI σ τ u tx i) (hok : okb u tx i = true) : FI σ (goS u tx i τ) u tx (i + 1) := by
  obtain ⟨h1, h2, h3, h4, h5⟩ := h
  obtain ⟨g1, g2⟩ := @goS_frame u tx i τ
  refine ⟨fun k a b => (g1 k a b).trans (h1 k a b), g2.trans h2, fun j hj => ?_, fun j hj => ?_, fun k hk => ?_⟩
  · unfold goS
    split
    · exact h3 j (by omega)
    · split
      · next e1 =>
        rw [ur_s]
        by_cases e : j = i / 3
        · have e3 : 3 * j = i := by omega
          rw [e, upd_s, ← e, e3]
          exact figI_ok ((okb0 e1).mp hok)
        · rw [upd_n e]; exact h3 j (by omega)
      · rw [ur_n (by omega)]; exact h3 j (by omega)
  · unfold goS
    split
    · exact h4 j (by omega)
    · split
      · rw [ur_n (by omega)]; exact h4 j (by omega)
      · next e1 e2 =>
        rw [ur_s]
        by_cases e : j = i / 3
        · have e3 : 3 * j + 1 = i := by omega
          rw [e, upd_s, ← e, e3]
          by_cases hu : u = 1
          · rw [if_pos hu, hu]
            exact kndI_ok ((okb1 (by omega) hu).mp hok)
          · rw [if_neg hu, figI_ok ((okb1' (by omega) hu).mp hok).1]
            unfold sec; rw [if_neg hu]
        · rw [upd_n e]; exact h4 j (by omega)
  · rcases Nat.lt_or_ge k i with q | q
    · exact h5 k q
    · rw [show k = i by omega]; exact hok
theorem flt_bad {u : Nat} {tx : Nat → Nat} {i n : Nat} (h : ∀ k, k < i → okb u tx k = true) (hi : i < n) (hb : ¬ okb u tx i = true) : flt u tx n = (i : Int) ∧ ents u tx n = 0 := by
  have := fbad_first h hi (by simpa using hb)
  unfold flt ents
  rw [this, if_pos hi, if_pos hi]
  exact ⟨rfl, rfl⟩
theorem flt_ok {u : Nat} {tx : Nat → Nat} {n : Nat} (h : ∀ k, k < n → okb u tx k = true) : flt u tx n = (if n = 0 ∨ n % 3 = 2 then -1 else (n : Int)) ∧ ents u tx n = (if n = 0 ∨ n % 3 = 2 then (n + 1) / 3 else 0) := by
  have := fbad_all h
  unfold flt ents
  rw [this]
  simp
set_option maxRecDepth 100000 in
set_option maxHeartbeats 4000000 in
theorem sX4_isBelow {G : GW} {σ : St} {K : Int32 → St → Prop} {x y : Int32}  (hQ : K (bI (0 ≤ x.toInt ∧ x.toInt < y.toInt)) σ) : Ci G (r0 0 0) mX4_isBelow [.int x, .int y] σ K := by
  refine Ci.of [some (.int x), some (.int y)] ?_
  refine A.il0 eX4_isBelow_0 ?_
  refine A.if_ltI eX4_isBelow_1 (fun c1 => ?_) (fun c1 => ?_)
  · refine A.iconst (v := nI 0) eX4_isBelow_13 (by decide) ?_
    refine B.zret eX4_isBelow_14 (by decide) ?_
    (first | exact vl_of hQ (bI_t (by omega)).symm | exact vl_of hQ (bI_f (by omega)).symm)
  · refine A.il0 eX4_isBelow_4 ?_
    refine A.il1 eX4_isBelow_5 ?_
    refine A.icmp_geI eX4_isBelow_6 (fun c2 => ?_) (fun c2 => ?_)
    · refine A.iconst (v := nI 0) eX4_isBelow_13 (by decide) ?_
      refine B.zret eX4_isBelow_14 (by decide) ?_
      (first | exact vl_of hQ (bI_t (by omega)).symm | exact vl_of hQ (bI_f (by omega)).symm)
    · refine A.iconst (v := nI 1) eX4_isBelow_9 (by decide) ?_
      refine A.goto eX4_isBelow_10 ?_
      refine B.zret eX4_isBelow_14 (by decide) ?_
      (first | exact vl_of hQ (bI_t (by omega)).symm | exact vl_of hQ (bI_f (by omega)).symm)
theorem sX4_isBelowN {G : GW} {σ : St} {K : Int32 → St → Prop} {a b : Nat} (ha : a < 2147483648) (hb : b < 2147483648) (hQ : K (bI (a < b)) σ) : Ci G (r0 0 0) mX4_isBelow [.int (nI a), .int (nI b)] σ K := sX4_isBelow (vl_of hQ (bI_congr (by rw [nI_ti ha, nI_ti hb]; omega)))
theorem sX4_isBelowIN {G : GW} {σ : St} {K : Int32 → St → Prop} {x : Int32} {b : Nat} (hb : b < 2147483648) (hQ : K (bI (0 ≤ x.toInt ∧ x.toInt < b)) σ) : Ci G (r0 0 0) mX4_isBelow [.int x, .int (nI b)] σ K := sX4_isBelow (vl_of hQ (bI_congr (by rw [nI_ti hb])))
set_option maxRecDepth 100000 in
set_option maxHeartbeats 4000000 in
theorem sX4_isHour {G : GW} {σ : St} {K : Int32 → St → Prop} {x : Int32}  (hQ : K (bI (0 ≤ x.toInt ∧ x.toInt < 24)) σ) : Ci G (r0 1 21) mX4_isHour [.int x] σ K := by
  refine Ci.of [some (.int x)] ?_
  refine A.il0 eX4_isHour_0 ?_
  refine A.bipush (v := nI 24) eX4_isHour_1 (by decide) ?_
  refine A.cSi2 eX4_isHour_3 oX4_isBelow kX4_67 (sX4_isBelow  ?_)
  refine B.zret eX4_isHour_6 (bI_01 _) ?_
  exact hQ
set_option maxRecDepth 100000 in
set_option maxHeartbeats 4000000 in
theorem sX0_hasRoom {G : GW} {σ : St} {K : Int32 → St → Prop} {u n : Nat} (hu : Vu u) (hl : σ.1 u 4 = nI n) (hn : n ≤ lb u) (hQ : K (bI (n < lb u)) σ) : Ci G (r0 0 0) mX0_hasRoom [rf G u] σ K := by
  refine Ci.of [some (rf G u)] ?_
  have hlb := lb_le u
  refine A.al0 eX0_hasRoom_0 ?_
  refine A.getI eX0_hasRoom_1 fX0_25 (kuo hu) ?_
  refine A.top hl ?_
  refine A.al0 eX0_hasRoom_4 ?_
  refine A.getR eX0_hasRoom_5 fX0_15 (kuo hu) (kur1 hu) ?_
  refine A.alenN eX0_hasRoom_8 (ku1 hu) ?_
  refine A.icmp_geN eX0_hasRoom_9 (fun c1 => ?_) (fun c1 => ?_)
  · refine A.iconst (v := nI 0) eX0_hasRoom_16 (by decide) ?_
    refine B.zret eX0_hasRoom_17 (by decide) ?_
    (first | exact vl_of hQ (bI_t (by omega)).symm | exact vl_of hQ (bI_f (by omega)).symm)
  · refine A.iconst (v := nI 1) eX0_hasRoom_12 (by decide) ?_
    refine A.goto eX0_hasRoom_13 ?_
    refine B.zret eX0_hasRoom_17 (by decide) ?_
    (first | exact vl_of hQ (bI_t (by omega)).symm | exact vl_of hQ (bI_f (by omega)).symm)
set_option maxRecDepth 100000 in
set_option maxHeartbeats 4000000 in
theorem sX0_first {G : GW} {σ : St} {K : Int32 → St → Prop} {u i : Nat} (hu : Vu u) (hi : i < lm u) (hQ : K (σ.1 (u + 2) i) σ) : Ci G (r0 1 21) mX0_first [rf G u, .int (nI i)] σ K := by
  refine Ci.of [some (rf G u), some (.int (nI i))] ?_
  have hlm := lm_le u
  refine A.il1 eX0_first_0 ?_
  refine A.al0 eX0_first_1 ?_
  refine A.getR eX0_first_2 fX0_19 (kuo hu) (kur2 hu) ?_
  refine A.alenN eX0_first_5 (ku2 hu) ?_
  refine A.cNi2 eX0_first_6 oX4_isBelow (fun s h => h.2.1) (sX4_isBelowN (by omega) (by omega) ?_)
  refine A.if_eqB eX0_first_9 (fun c1 => ?_) (fun c1 => ?_)
  · exact absurd hi (by assumption)
  · refine A.al0 eX0_first_12 ?_
    refine A.getR eX0_first_13 fX0_19 (kuo hu) (kur2 hu) ?_
    refine A.il1 eX0_first_16 ?_
    refine A.ialdN eX0_first_17 (ku2 hu) ?_
    refine A.goto eX0_first_18 ?_
    refine B.iret eX0_first_22 ?_
    exact hQ
set_option maxRecDepth 100000 in
set_option maxHeartbeats 4000000 in
theorem sX0_second {G : GW} {σ : St} {K : Int32 → St → Prop} {u i : Nat} (hu : Vu u) (hi : i < lm u) (hQ : K (σ.1 (u + 3) i) σ) : Ci G (r0 1 21) mX0_second [rf G u, .int (nI i)] σ K := by
  refine Ci.of [some (rf G u), some (.int (nI i))] ?_
  have hlm := lm_le u
  refine A.il1 eX0_second_0 ?_
  refine A.al0 eX0_second_1 ?_
  refine A.getR eX0_second_2 fX0_22 (kuo hu) (kur3 hu) ?_
  refine A.alenN eX0_second_5 (ku3 hu) ?_
  refine A.cNi2 eX0_second_6 oX4_isBelow (fun s h => h.2.1) (sX4_isBelowN (by omega) (by omega) ?_)
  refine A.if_eqB eX0_second_9 (fun c1 => ?_) (fun c1 => ?_)
  · exact absurd hi (by assumption)
  · refine A.al0 eX0_second_12 ?_
    refine A.getR eX0_second_13 fX0_22 (kuo hu) (kur3 hu) ?_
    refine A.il1 eX0_second_16 ?_
    refine A.ialdN eX0_second_17 (ku3 hu) ?_
    refine A.goto eX0_second_18 ?_
    refine B.iret eX0_second_22 ?_
    exact hQ
set_option maxRecDepth 100000 in
set_option maxHeartbeats 4000000 in
theorem sX0_figureOf {G : GW} {σ : St} {K : Int32 → St → Prop} {b : Nat} (hb : b < 256) (hQ : K (figI b) σ) : Ci G (r0 0 0) mX0_figureOf [.int (nI b)] σ K := by
  refine Ci.of [some (.int (nI b))] ?_
  refine A.il0 eX0_figureOf_0 ?_
  refine A.bipush (v := nI 48) eX0_figureOf_1 (by decide) ?_
  refine A.icmp_ltN eX0_figureOf_3 (fun c1 => ?_) (fun c1 => ?_)
  · refine A.iconst (v := -1) eX0_figureOf_19 (by decide) ?_
    refine B.iret eX0_figureOf_20 ?_
    (first | exact vl_of hQ (by unfold figI; rw [if_pos (by omega)]) | exact vl_of hQ (by unfold figI; rw [if_neg (by omega)]))
  · refine A.il0 eX0_figureOf_6 ?_
    refine A.bipush (v := nI 57) eX0_figureOf_7 (by decide) ?_
    refine A.icmp_gtN eX0_figureOf_9 (fun c2 => ?_) (fun c2 => ?_)
    · refine A.iconst (v := -1) eX0_figureOf_19 (by decide) ?_
      refine B.iret eX0_figureOf_20 ?_
      (first | exact vl_of hQ (by unfold figI; rw [if_pos (by omega)]) | exact vl_of hQ (by unfold figI; rw [if_neg (by omega)]))
    · refine A.il0 eX0_figureOf_12 ?_
      refine A.bipush (v := nI 48) eX0_figureOf_13 (by decide) ?_
      refine A.isubN eX0_figureOf_15 ?_
      refine A.goto eX0_figureOf_16 ?_
      refine B.iret eX0_figureOf_20 ?_
      (first | exact vl_of hQ (by unfold figI; rw [if_pos (by omega)]) | exact vl_of hQ (by unfold figI; rw [if_neg (by omega)]))
set_option maxRecDepth 100000 in
set_option maxHeartbeats 4000000 in
theorem sX0_sumOfFirsts {G : GW} {σ : St} {K : Int32 → St → Prop} {u n : Nat} (hu : Vu u) (hl : σ.1 u 5 = nI n) (hn : n ≤ lm u) (hQ : K (isum (σ.1 (u + 2)) n) σ) : Ci G (r0 0 0) mX0_sumOfFirsts [rf G u] σ K := by
  refine Ci.of [some (rf G u), none, none] ?_
  have hlm := lm_le u
  refine A.iconst (v := nI 0) eX0_sumOfFirsts_0 (by decide) ?_
  refine A.is1 eX0_sumOfFirsts_1 ?_
  refine A.iconst (v := nI 0) eX0_sumOfFirsts_2 (by decide) ?_
  refine A.is2 eX0_sumOfFirsts_3 ?_
  have lp : ∀ (fu i : Nat), n - i < fu → i ≤ n → B G (r0 0 0) mX0_sumOfFirsts 4 [some (rf G u), some (.int (isum (σ.1 (u + 2)) i)), some (.int (nI i))] [] (σ) (Pi K) := by
    intro fu
    induction fu with
    | zero => intro i  h1 h2; omega
    | succ fu ih =>
      intro i  h1 h2 
      refine A.il2 eX0_sumOfFirsts_4 ?_
      refine A.al0 eX0_sumOfFirsts_5 ?_
      refine A.getI eX0_sumOfFirsts_6 fX0_28 (kuo hu) ?_
      refine A.top hl ?_
      refine A.icmp_geN eX0_sumOfFirsts_9 (fun c1 => ?_) (fun c1 => ?_)
      · refine A.il1 eX0_sumOfFirsts_27 ?_
        refine B.iret eX0_sumOfFirsts_28 ?_
        have e : i = n := by omega
        rw [e]; exact hQ
      · refine A.il1 eX0_sumOfFirsts_12 ?_
        refine A.al0 eX0_sumOfFirsts_13 ?_
        refine A.getR eX0_sumOfFirsts_14 fX0_19 (kuo hu) (kur2 hu) ?_
        refine A.il2 eX0_sumOfFirsts_17 ?_
        refine A.ialdN eX0_sumOfFirsts_18 (ku2 hu) ?_
        refine A.iadd eX0_sumOfFirsts_19 ?_
        refine A.is1 eX0_sumOfFirsts_20 ?_
        refine A.inc2N eX0_sumOfFirsts_21 ?_
        refine A.goto eX0_sumOfFirsts_24 ?_
        exact A.eq (by rfl) rfl (by rfl) (ih (i + 1) (by omega) (by omega))
  exact lp (n + 1) 0 (by omega) (by omega)
set_option maxRecDepth 100000 in
theorem sX0_kindOf {G : GW} {σ : St} {K : Int32 → St → Prop} {b : Nat} (hb : b < 256) (hQ : K (kndI b) σ) : Ci G (r0 0 0) mX0_kindOf [.int (nI b)] σ K := by
  refine Ci.of [some (.int (nI b))] ?_
  refine A.il0 eX0_kindOf_0 ?_
  by_cases h1 : b = 111
  · subst h1
    refine A.lookup (t := 36) (off := 35) eX0_kindOf_1 (by decide) (by decide) (by decide) ?_
    refine A.iconst (v := nI 0) eX0_kindOf_36 (by decide) ?_
    exact B.iret eX0_kindOf_37 hQ
  by_cases h2 : b = 104
  · subst h2
    refine A.lookup (t := 38) (off := 37) eX0_kindOf_1 (by decide) (by decide) (by decide) ?_
    refine A.iconst (v := nI 1) eX0_kindOf_38 (by decide) ?_
    exact B.iret eX0_kindOf_39 hQ
  by_cases h3 : b = 99
  · subst h3
    refine A.lookup (t := 40) (off := 39) eX0_kindOf_1 (by decide) (by decide) (by decide) ?_
    refine A.iconst (v := nI 2) eX0_kindOf_40 (by decide) ?_
    exact B.iret eX0_kindOf_41 hQ
  have ne : ∀ k : Nat, k < 256 → b ≠ k → ¬ nI b = nI k := fun k hk hn e => hn ((nI_eq (by omega) (by omega)).mp e)
  refine A.lookup (t := 42) (off := 41) eX0_kindOf_1 (by decide) ?_ (by decide) ?_
  · show Op.lookupswitch.offset [(99, 39), (104, 37), (111, 35)] 41 (nI b).toInt = 41
    rw [lv_osw (ne 99 (by omega) h3) (by decide), lv_osw (ne 104 (by omega) h2) (by decide), lv_osw (ne 111 (by omega) h1) (by decide)]
    rfl
  refine A.iconst (v := -1) eX0_kindOf_42 (by decide) ?_
  exact B.iret eX0_kindOf_43 (vl_of hQ (by unfold kndI; rw [if_neg h1, if_neg h2, if_neg h3]))
theorem goes_lt {σ : St} {u i : Nat} {tx : Nat → Nat} (hp : i % 3 = 1 → σ.1 (u + 2) (i / 3) = nI (tx (i - 1) - 48) ∧ 48 ≤ tx (i - 1) ∧ tx (i - 1) ≤ 57) (h3 : i % 3 = 1) (hu1 : ¬ u = 1) (hx : tx i < 256) (pn : ¬ figI (tx i) = -1) (pl : (figI (tx i)).toInt < (nI (tx (i - 1) - 48)).toInt) : nI 0 = bI (okb u tx i = true) := by
  refine (bI_f (fun z => ?_)).symm
  have z2 := (okb1' h3 hu1).mp z
  rw [figI_ok z2.1, nI_ti (by omega), nI_ti (by have := (hp h3).2; omega)] at pl
  have := (hp h3).2
  omega
theorem goes_ge {σ : St} {u i : Nat} {tx : Nat → Nat} (hp : i % 3 = 1 → σ.1 (u + 2) (i / 3) = nI (tx (i - 1) - 48) ∧ 48 ≤ tx (i - 1) ∧ tx (i - 1) ≤ 57) (h3 : i % 3 = 1) (hu1 : ¬ u = 1) (hx : tx i < 256) (pn : ¬ figI (tx i) = -1) (pl : (nI (tx (i - 1) - 48)).toInt ≤ (figI (tx i)).toInt) : nI 1 = bI (okb u tx i = true) := by
  have z1 : 48 ≤ tx i ∧ tx i ≤ 57 := Decidable.byContradiction fun z => pn ((figI_m1 hx).mpr z)
  rw [figI_ok z1, nI_ti (by omega), nI_ti (by have := (hp h3).2; omega)] at pl
  have := (hp h3).2
  exact (bI_t ((okb1' h3 hu1).mpr ⟨z1, by omega⟩)).symm
set_option maxRecDepth 100000 in
set_option maxHeartbeats 4000000 in
theorem sX0_goesOn {G : GW} {σ : St} {K : Int32 → St → Prop} {u i : Nat} {tx : Nat → Nat} (hu : Vu u) (hi : i < lb u) (hb : σ.1 (u + 1) i = nI (tx i)) (hx : tx i < 256) (ht : σ.1 u 0 = nI (tt u)) (hp : i % 3 = 1 → σ.1 (u + 2) (i / 3) = nI (tx (i - 1) - 48) ∧ 48 ≤ tx (i - 1) ∧ tx (i - 1) ≤ 57) (hQ : K (bI (okb u tx i = true)) (goS u tx i σ)) : Ci G (r0 1 20) mX0_goesOn [rf G u, .int (nI i)] σ K := by
  refine Ci.of [some (rf G u), some (.int (nI i)), none] ?_
  have hlb := lb_le u
  have htt : tt u ≤ 1 := by unfold tt; split <;> omega
  refine A.il1 eX0_goesOn_0 ?_
  refine A.iconst (v := nI 3) eX0_goesOn_1 (by decide) ?_
  refine A.idivN eX0_goesOn_2 ?_
  refine A.is2 eX0_goesOn_3 ?_
  refine A.il1 eX0_goesOn_4 ?_
  refine A.iconst (v := nI 3) eX0_goesOn_5 (by decide) ?_
  refine A.iremN eX0_goesOn_6 ?_
  refine A.iconst (v := nI 2) eX0_goesOn_7 (by decide) ?_
  refine A.icmp_neN eX0_goesOn_8 (fun p2 => ?_) (fun p2 => ?_)
  · refine A.il1 eX0_goesOn_28 ?_
    refine A.iconst (v := nI 3) eX0_goesOn_29 (by decide) ?_
    refine A.iremN eX0_goesOn_30 ?_
    refine A.if_neN eX0_goesOn_31 (fun p0 => ?_) (fun p0 => ?_)
    · refine A.al0 eX0_goesOn_65 ?_
      refine A.getR eX0_goesOn_66 fX0_22 (kuo hu) (kur3 hu) ?_
      refine A.il2 eX0_goesOn_69 ?_
      refine A.al0 eX0_goesOn_70 ?_
      refine A.getI eX0_goesOn_71 fX0_9 (kuo hu) ?_
      refine A.top (show _ = nI (tt u) from by simp [ur, ht]) ?_
      refine A.if_neN eX0_goesOn_74 (fun q0 => ?_) (fun q0 => ?_)
      · have q1 : ¬ u = 1 := by unfold tt at q0; split at q0 <;> omega
        refine A.al0 eX0_goesOn_89 ?_
        refine A.getR eX0_goesOn_90 fX0_15 (kuo hu) (kur1 hu) ?_
        refine A.il1 eX0_goesOn_93 ?_
        refine A.ialdN eX0_goesOn_94 (ku1 hu) ?_
        refine A.top hb ?_
        refine A.cSi1 eX0_goesOn_95 oX0_figureOf kX0_53 (sX0_figureOf (by first | assumption | omega) ?_)
        refine A.iastN eX0_goesOn_98 (ku3 hu) ?_
        refine A.al0 eX0_goesOn_99 ?_
        refine A.getR eX0_goesOn_100 fX0_22 (kuo hu) (kur3 hu) ?_
        refine A.il2 eX0_goesOn_103 ?_
        refine A.ialdN eX0_goesOn_104 (ku3 hu) ?_
        refine A.top (show _ = (if u = 1 then kndI (tx i) else figI (tx i)) from by simp [ur, upd, q1]) ?_
        refine A.iconst (v := -1) eX0_goesOn_105 (by decide) ?_
        refine A.icmp_eq eX0_goesOn_106 (fun pn => ?_) (fun pn => ?_)
        · refine A.iconst (v := nI 0) eX0_goesOn_135 (by decide) ?_
          refine B.zret eX0_goesOn_136 (by decide) ?_
          have h3 : i % 3 = 1 := by omega
          refine st_of2 hQ ?_ (by unfold goS; rw [if_neg p2, if_neg p0]; simp [q1])
          by_cases hu1 : u = 1
          · have h111 : (if u = 1 then kndI (tx i) else figI (tx i)) = kndI (tx i) := if_pos hu1
            rw [h111] at pn
            (first | exact (bI_f (fun z => (kndI_m1).mp pn ((okb1 h3 hu1).mp z))).symm | exact (bI_t ((okb1 h3 hu1).mpr (Decidable.byContradiction fun z => pn (kndI_m1.mpr z)))).symm | exact absurd hu1 q1 | (exact absurd q3 (by simp [tt, hu1])))
          · have h111 : (if u = 1 then kndI (tx i) else figI (tx i)) = figI (tx i) := if_neg hu1
            rw [h111] at pn
            (first | exact (bI_f (fun z => (figI_m1 hx).mp pn ((okb1' h3 hu1).mp z).1)).symm | exact absurd q1 hu1 | exact goes_lt hp h3 hu1 hx pn pl | exact goes_ge hp h3 hu1 hx pn pl | (exact absurd q3 (by simp [tt, hu1])))
        · refine A.al0 eX0_goesOn_109 ?_
          refine A.getI eX0_goesOn_110 fX0_9 (kuo hu) ?_
          refine A.top (show _ = nI (tt u) from by simp [ur, ht]) ?_
          refine A.if_eqN eX0_goesOn_113 (fun q3 => ?_) (fun q3 => ?_)
          · refine A.iconst (v := nI 1) eX0_goesOn_131 (by decide) ?_
            refine A.goto eX0_goesOn_132 ?_
            refine B.zret eX0_goesOn_136 (by decide) ?_
            have h3 : i % 3 = 1 := by omega
            refine st_of2 hQ ?_ (by unfold goS; rw [if_neg p2, if_neg p0]; simp [q1])
            by_cases hu1 : u = 1
            · have h111 : (if u = 1 then kndI (tx i) else figI (tx i)) = kndI (tx i) := if_pos hu1
              rw [h111] at pn
              (first | exact (bI_f (fun z => (kndI_m1).mp pn ((okb1 h3 hu1).mp z))).symm | exact (bI_t ((okb1 h3 hu1).mpr (Decidable.byContradiction fun z => pn (kndI_m1.mpr z)))).symm | exact absurd hu1 q1 | (exact absurd q3 (by simp [tt, hu1])))
            · have h111 : (if u = 1 then kndI (tx i) else figI (tx i)) = figI (tx i) := if_neg hu1
              rw [h111] at pn
              (first | exact (bI_f (fun z => (figI_m1 hx).mp pn ((okb1' h3 hu1).mp z).1)).symm | exact absurd q1 hu1 | exact goes_lt hp h3 hu1 hx pn pl | exact goes_ge hp h3 hu1 hx pn pl | (exact absurd q3 (by simp [tt, hu1])))
          · refine A.al0 eX0_goesOn_116 ?_
            refine A.getR eX0_goesOn_117 fX0_22 (kuo hu) (kur3 hu) ?_
            refine A.il2 eX0_goesOn_120 ?_
            refine A.ialdN eX0_goesOn_121 (ku3 hu) ?_
            refine A.top (show _ = figI (tx i) from by first | exact absurd q0 q3 | simp [ur, upd]) ?_
            refine A.al0 eX0_goesOn_122 ?_
            refine A.getR eX0_goesOn_123 fX0_19 (kuo hu) (kur2 hu) ?_
            refine A.il2 eX0_goesOn_126 ?_
            refine A.ialdN eX0_goesOn_127 (ku2 hu) ?_
            refine A.top (show _ = nI (tx (i - 1) - 48) from by simp [ur]; exact (hp (by omega)).1) ?_
            refine A.icmp_ltI eX0_goesOn_128 (fun pl => ?_) (fun pl => ?_)
            · refine A.iconst (v := nI 0) eX0_goesOn_135 (by decide) ?_
              refine B.zret eX0_goesOn_136 (by decide) ?_
              have h3 : i % 3 = 1 := by omega
              refine st_of2 hQ ?_ (by unfold goS; rw [if_neg p2, if_neg p0]; simp [q1])
              by_cases hu1 : u = 1
              · have h111 : (if u = 1 then kndI (tx i) else figI (tx i)) = kndI (tx i) := if_pos hu1
                rw [h111] at pn
                (first | exact (bI_f (fun z => (kndI_m1).mp pn ((okb1 h3 hu1).mp z))).symm | exact (bI_t ((okb1 h3 hu1).mpr (Decidable.byContradiction fun z => pn (kndI_m1.mpr z)))).symm | exact absurd hu1 q1 | (exact absurd q3 (by simp [tt, hu1])))
              · have h111 : (if u = 1 then kndI (tx i) else figI (tx i)) = figI (tx i) := if_neg hu1
                rw [h111] at pn
                (first | exact (bI_f (fun z => (figI_m1 hx).mp pn ((okb1' h3 hu1).mp z).1)).symm | exact absurd q1 hu1 | exact goes_lt hp h3 hu1 hx pn pl | exact goes_ge hp h3 hu1 hx pn pl | (exact absurd q3 (by simp [tt, hu1])))
            · refine A.iconst (v := nI 1) eX0_goesOn_131 (by decide) ?_
              refine A.goto eX0_goesOn_132 ?_
              refine B.zret eX0_goesOn_136 (by decide) ?_
              have h3 : i % 3 = 1 := by omega
              refine st_of2 hQ ?_ (by unfold goS; rw [if_neg p2, if_neg p0]; simp [q1])
              by_cases hu1 : u = 1
              · have h111 : (if u = 1 then kndI (tx i) else figI (tx i)) = kndI (tx i) := if_pos hu1
                rw [h111] at pn
                (first | exact (bI_f (fun z => (kndI_m1).mp pn ((okb1 h3 hu1).mp z))).symm | exact (bI_t ((okb1 h3 hu1).mpr (Decidable.byContradiction fun z => pn (kndI_m1.mpr z)))).symm | exact absurd hu1 q1 | (exact absurd q3 (by simp [tt, hu1])))
              · have h111 : (if u = 1 then kndI (tx i) else figI (tx i)) = figI (tx i) := if_neg hu1
                rw [h111] at pn
                (first | exact (bI_f (fun z => (figI_m1 hx).mp pn ((okb1' h3 hu1).mp z).1)).symm | exact absurd q1 hu1 | exact goes_lt hp h3 hu1 hx pn pl | exact goes_ge hp h3 hu1 hx pn pl | (exact absurd q3 (by simp [tt, hu1])))
      · have q1 : u = 1 := by unfold tt at q0; split at q0 <;> omega
        refine A.al0 eX0_goesOn_77 ?_
        refine A.getR eX0_goesOn_78 fX0_15 (kuo hu) (kur1 hu) ?_
        refine A.il1 eX0_goesOn_81 ?_
        refine A.ialdN eX0_goesOn_82 (ku1 hu) ?_
        refine A.top hb ?_
        refine A.cSi1 eX0_goesOn_83 oX0_kindOf kX0_57 (sX0_kindOf (by first | assumption | omega) ?_)
        refine A.goto eX0_goesOn_86 ?_
        refine A.iastN eX0_goesOn_98 (ku3 hu) ?_
        refine A.al0 eX0_goesOn_99 ?_
        refine A.getR eX0_goesOn_100 fX0_22 (kuo hu) (kur3 hu) ?_
        refine A.il2 eX0_goesOn_103 ?_
        refine A.ialdN eX0_goesOn_104 (ku3 hu) ?_
        refine A.top (show _ = (if u = 1 then kndI (tx i) else figI (tx i)) from by simp [ur, upd, q1]) ?_
        refine A.iconst (v := -1) eX0_goesOn_105 (by decide) ?_
        refine A.icmp_eq eX0_goesOn_106 (fun pn => ?_) (fun pn => ?_)
        · refine A.iconst (v := nI 0) eX0_goesOn_135 (by decide) ?_
          refine B.zret eX0_goesOn_136 (by decide) ?_
          have h3 : i % 3 = 1 := by omega
          refine st_of2 hQ ?_ (by unfold goS; rw [if_neg p2, if_neg p0]; simp [q1])
          by_cases hu1 : u = 1
          · have h111 : (if u = 1 then kndI (tx i) else figI (tx i)) = kndI (tx i) := if_pos hu1
            rw [h111] at pn
            (first | exact (bI_f (fun z => (kndI_m1).mp pn ((okb1 h3 hu1).mp z))).symm | exact (bI_t ((okb1 h3 hu1).mpr (Decidable.byContradiction fun z => pn (kndI_m1.mpr z)))).symm | exact absurd hu1 q1 | (exact absurd q3 (by simp [tt, hu1])))
          · have h111 : (if u = 1 then kndI (tx i) else figI (tx i)) = figI (tx i) := if_neg hu1
            rw [h111] at pn
            (first | exact (bI_f (fun z => (figI_m1 hx).mp pn ((okb1' h3 hu1).mp z).1)).symm | exact absurd q1 hu1 | exact goes_lt hp h3 hu1 hx pn pl | exact goes_ge hp h3 hu1 hx pn pl | (exact absurd q3 (by simp [tt, hu1])))
        · refine A.al0 eX0_goesOn_109 ?_
          refine A.getI eX0_goesOn_110 fX0_9 (kuo hu) ?_
          refine A.top (show _ = nI (tt u) from by simp [ur, ht]) ?_
          refine A.if_eqN eX0_goesOn_113 (fun q3 => ?_) (fun q3 => ?_)
          · refine A.iconst (v := nI 1) eX0_goesOn_131 (by decide) ?_
            refine A.goto eX0_goesOn_132 ?_
            refine B.zret eX0_goesOn_136 (by decide) ?_
            have h3 : i % 3 = 1 := by omega
            refine st_of2 hQ ?_ (by unfold goS; rw [if_neg p2, if_neg p0]; simp [q1])
            by_cases hu1 : u = 1
            · have h111 : (if u = 1 then kndI (tx i) else figI (tx i)) = kndI (tx i) := if_pos hu1
              rw [h111] at pn
              (first | exact (bI_f (fun z => (kndI_m1).mp pn ((okb1 h3 hu1).mp z))).symm | exact (bI_t ((okb1 h3 hu1).mpr (Decidable.byContradiction fun z => pn (kndI_m1.mpr z)))).symm | exact absurd hu1 q1 | (exact absurd q3 (by simp [tt, hu1])))
            · have h111 : (if u = 1 then kndI (tx i) else figI (tx i)) = figI (tx i) := if_neg hu1
              rw [h111] at pn
              (first | exact (bI_f (fun z => (figI_m1 hx).mp pn ((okb1' h3 hu1).mp z).1)).symm | exact absurd q1 hu1 | exact goes_lt hp h3 hu1 hx pn pl | exact goes_ge hp h3 hu1 hx pn pl | (exact absurd q3 (by simp [tt, hu1])))
          · refine A.al0 eX0_goesOn_116 ?_
            refine A.getR eX0_goesOn_117 fX0_22 (kuo hu) (kur3 hu) ?_
            refine A.il2 eX0_goesOn_120 ?_
            refine A.ialdN eX0_goesOn_121 (ku3 hu) ?_
            refine A.top (show _ = figI (tx i) from by first | exact absurd q0 q3 | simp [ur, upd]) ?_
            refine A.al0 eX0_goesOn_122 ?_
            refine A.getR eX0_goesOn_123 fX0_19 (kuo hu) (kur2 hu) ?_
            refine A.il2 eX0_goesOn_126 ?_
            refine A.ialdN eX0_goesOn_127 (ku2 hu) ?_
            refine A.top (show _ = nI (tx (i - 1) - 48) from by simp [ur]; exact (hp (by omega)).1) ?_
            refine A.icmp_ltI eX0_goesOn_128 (fun pl => ?_) (fun pl => ?_)
            · refine A.iconst (v := nI 0) eX0_goesOn_135 (by decide) ?_
              refine B.zret eX0_goesOn_136 (by decide) ?_
              have h3 : i % 3 = 1 := by omega
              refine st_of2 hQ ?_ (by unfold goS; rw [if_neg p2, if_neg p0]; simp [q1])
              by_cases hu1 : u = 1
              · have h111 : (if u = 1 then kndI (tx i) else figI (tx i)) = kndI (tx i) := if_pos hu1
                rw [h111] at pn
                (first | exact (bI_f (fun z => (kndI_m1).mp pn ((okb1 h3 hu1).mp z))).symm | exact (bI_t ((okb1 h3 hu1).mpr (Decidable.byContradiction fun z => pn (kndI_m1.mpr z)))).symm | exact absurd hu1 q1 | (exact absurd q3 (by simp [tt, hu1])))
              · have h111 : (if u = 1 then kndI (tx i) else figI (tx i)) = figI (tx i) := if_neg hu1
                rw [h111] at pn
                (first | exact (bI_f (fun z => (figI_m1 hx).mp pn ((okb1' h3 hu1).mp z).1)).symm | exact absurd q1 hu1 | exact goes_lt hp h3 hu1 hx pn pl | exact goes_ge hp h3 hu1 hx pn pl | (exact absurd q3 (by simp [tt, hu1])))
            · refine A.iconst (v := nI 1) eX0_goesOn_131 (by decide) ?_
              refine A.goto eX0_goesOn_132 ?_
              refine B.zret eX0_goesOn_136 (by decide) ?_
              have h3 : i % 3 = 1 := by omega
              refine st_of2 hQ ?_ (by unfold goS; rw [if_neg p2, if_neg p0]; simp [q1])
              by_cases hu1 : u = 1
              · have h111 : (if u = 1 then kndI (tx i) else figI (tx i)) = kndI (tx i) := if_pos hu1
                rw [h111] at pn
                (first | exact (bI_f (fun z => (kndI_m1).mp pn ((okb1 h3 hu1).mp z))).symm | exact (bI_t ((okb1 h3 hu1).mpr (Decidable.byContradiction fun z => pn (kndI_m1.mpr z)))).symm | exact absurd hu1 q1 | (exact absurd q3 (by simp [tt, hu1])))
              · have h111 : (if u = 1 then kndI (tx i) else figI (tx i)) = figI (tx i) := if_neg hu1
                rw [h111] at pn
                (first | exact (bI_f (fun z => (figI_m1 hx).mp pn ((okb1' h3 hu1).mp z).1)).symm | exact absurd q1 hu1 | exact goes_lt hp h3 hu1 hx pn pl | exact goes_ge hp h3 hu1 hx pn pl | (exact absurd q3 (by simp [tt, hu1])))
    · refine A.al0 eX0_goesOn_34 ?_
      refine A.getR eX0_goesOn_35 fX0_19 (kuo hu) (kur2 hu) ?_
      refine A.il2 eX0_goesOn_38 ?_
      refine A.al0 eX0_goesOn_39 ?_
      refine A.getR eX0_goesOn_40 fX0_15 (kuo hu) (kur1 hu) ?_
      refine A.il1 eX0_goesOn_43 ?_
      refine A.ialdN eX0_goesOn_44 (ku1 hu) ?_
      refine A.top hb ?_
      refine A.cSi1 eX0_goesOn_45 oX0_figureOf kX0_53 (sX0_figureOf (by first | assumption | omega) ?_)
      refine A.iastN eX0_goesOn_48 (ku2 hu) ?_
      refine A.al0 eX0_goesOn_49 ?_
      refine A.getR eX0_goesOn_50 fX0_19 (kuo hu) (kur2 hu) ?_
      refine A.il2 eX0_goesOn_53 ?_
      refine A.ialdN eX0_goesOn_54 (ku2 hu) ?_
      refine A.top (show _ = figI (tx i) from by simp [ur, upd]) ?_
      refine A.iconst (v := -1) eX0_goesOn_55 (by decide) ?_
      refine A.icmp_eq eX0_goesOn_56 (fun pm => ?_) (fun pm => ?_)
      · refine A.iconst (v := nI 0) eX0_goesOn_63 (by decide) ?_
        refine B.zret eX0_goesOn_64 (by decide) ?_
        refine st_of2 hQ ?_ (by unfold goS; rw [if_neg p2, if_pos p0])
        (first | exact (bI_f (fun z => (figI_m1 hx).mp pm ((okb0 p0).mp z))).symm | exact (bI_t ((okb0 p0).mpr (Decidable.byContradiction fun z => pm ((figI_m1 hx).mpr z)))).symm)
      · refine A.iconst (v := nI 1) eX0_goesOn_59 (by decide) ?_
        refine A.goto eX0_goesOn_60 ?_
        refine B.zret eX0_goesOn_64 (by decide) ?_
        refine st_of2 hQ ?_ (by unfold goS; rw [if_neg p2, if_pos p0])
        (first | exact (bI_f (fun z => (figI_m1 hx).mp pm ((okb0 p0).mp z))).symm | exact (bI_t ((okb0 p0).mpr (Decidable.byContradiction fun z => pm ((figI_m1 hx).mpr z)))).symm)
  · refine A.al0 eX0_goesOn_11 ?_
    refine A.getR eX0_goesOn_12 fX0_15 (kuo hu) (kur1 hu) ?_
    refine A.il1 eX0_goesOn_15 ?_
    refine A.ialdN eX0_goesOn_16 (ku1 hu) ?_
    refine A.top hb ?_
    refine A.bipush (v := nI 59) eX0_goesOn_17 (by decide) ?_
    refine A.icmp_neN eX0_goesOn_19 (fun p59 => ?_) (fun p59 => ?_)
    · refine A.iconst (v := nI 0) eX0_goesOn_26 (by decide) ?_
      refine B.zret eX0_goesOn_27 (by decide) ?_
      refine st_of2 hQ ?_ (by unfold goS; rw [if_pos p2])
      (first | exact (bI_t ((okb2 p2).mpr p59)).symm | exact (bI_f (fun z => p59 ((okb2 p2).mp z))).symm)
    · refine A.iconst (v := nI 1) eX0_goesOn_22 (by decide) ?_
      refine A.goto eX0_goesOn_23 ?_
      refine B.zret eX0_goesOn_27 (by decide) ?_
      refine st_of2 hQ ?_ (by unfold goS; rw [if_pos p2])
      (first | exact (bI_t ((okb2 p2).mpr p59)).symm | exact (bI_f (fun z => p59 ((okb2 p2).mp z))).symm)
