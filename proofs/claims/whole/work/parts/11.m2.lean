def Lf (σ τ : St) (u : Nat) : Prop := (∀ k, k ≠ u → k ≠ u + 2 → k ≠ u + 3 → τ.1 k = σ.1 k) ∧ τ.2 = σ.2 ∧ ∀ j, j ≠ 5 → j ≠ 6 → τ.1 u j = σ.1 u j
def Lf2 (σ τ : St) (u : Nat) : Prop := (∀ k, k ≠ u → k ≠ u + 1 → k ≠ u + 2 → k ≠ u + 3 → τ.1 k = σ.1 k) ∧ τ.2 = σ.2
def tadd (σ : St) (t n : Nat) (x y z : Int32) : St := ur (ur (ur (ur σ (t + 1) (upd (σ.1 (t + 1)) n x)) (t + 2) (upd (σ.1 (t + 2)) n y)) (t + 3) (upd (σ.1 (t + 3)) n z)) t (upd (σ.1 t) 3 (nI (n + 1)))
def cutI (f v : Int32) : Int32 := if f = 0 then v.toInt8.toInt32 else if f = nI 1 then v.toInt16.toInt32 else v
theorem A.mmaxN {G : GW} {rm : Room} {M : MR} {pc q idx : Nat} {L : List (Option Value)} {S : List Value} {h : HD} {σ : St} {Q : Option Value → HD → St → Prop} {a b : Nat} (hd : Ix M pc q (.invokestatic idx) 3) (hlk : Cond.methodLink M.1.cls idx yJ9_max_7cf53 ∈ gt) (k : A G rm M (0, 0) (0, 0) q L (.int (nI (max a b)) :: S) h σ Q) (ha : a < 2147483648 := by omega) (hb : b < 2147483648 := by omega) (hr : 1 ≤ rm.frames ∧ (S.map (fun v => v.category)).sum + 13 ≤ rm.locals := by exact ⟨Nat.le_of_ble_eq_true rfl, Nat.le_of_ble_eq_true rfl⟩) : A G rm M (0, 0) (0, 0) pc L (.int (nI b) :: .int (nI a) :: S) h σ Q := by
  refine A.mmax hd hlk ?_ hr
  have e : (if nI a < nI b then nI b else nI a) = nI (max a b) := by
    by_cases h : a < b
    · rw [if_pos ((nI_ltI (by omega) (by omega)).mpr h), Nat.max_eq_right (by omega)]
    · rw [if_neg (fun z => h ((nI_ltI (by omega) (by omega)).mp z)), Nat.max_eq_left (by omega)]
  rw [e]; exact k
set_option maxRecDepth 100000 in
set_option maxHeartbeats 4000000 in
theorem sX0_firstFault {G : GW} {σ : St} {K : Int32 → St → Prop} {u n : Nat} {tx : Nat → Nat} (hu : Vu u) (hI : LI σ u n tx) (hQ : ∀ τ : St, (∀ k, k ≠ u + 2 → k ≠ u + 3 → τ.1 k = σ.1 k) → τ.2 = σ.2 → (∀ j, j < ents u tx n → τ.1 (u + 2) j = nI (tx (3 * j) - 48) ∧ τ.1 (u + 3) j = nI (sec u (tx (3 * j + 1)))) → K (zI (flt u tx n)) τ) : Ci G (r0 2 42) mX0_firstFault [rf G u] σ K := by
  refine Ci.of [some (rf G u), none] ?_
  obtain ⟨ht0, hl, hnb, hbx⟩ := hI
  have hlb := lb_le u
  refine A.iconst (v := nI 0) eX0_firstFault_0 (by decide) ?_
  refine A.is1 eX0_firstFault_1 ?_
  have lp : ∀ (fu i : Nat) (τ : St), n - i < fu → i ≤ n → FI σ τ u tx i → B G (r0 2 42) mX0_firstFault 2 [some (rf G u), some (.int (nI i))] [] (τ) (Pi K) := by
    intro fu
    induction fu with
    | zero => intro i τ h1 h2; omega
    | succ fu ih =>
      intro i τ h1 h2 hF
      have hl' : τ.1 u 4 = nI n := by rw [hF.1 u (by omega) (by omega)]; exact hl
      refine A.il1 eX0_firstFault_2 ?_
      refine A.al0 eX0_firstFault_3 ?_
      refine A.getI eX0_firstFault_4 fX0_25 (kuo hu) ?_
      refine A.top hl' ?_
      refine A.icmp_geN eX0_firstFault_7 (fun c1 => ?_) (fun c1 => ?_)
      · refine A.al0 eX0_firstFault_26 ?_
        refine A.getI eX0_firstFault_27 fX0_25 (kuo hu) ?_
        refine A.top hl' ?_
        refine A.if_eqN eX0_firstFault_30 (fun c2 => ?_) (fun c2 => ?_)
        · refine A.iconst (v := -1) eX0_firstFault_43 (by decide) ?_
          refine A.goto eX0_firstFault_44 ?_
          refine B.iret eX0_firstFault_51 ?_
          have e : i = n := by omega
          subst e
          obtain ⟨q1, q2⟩ := flt_ok hF.2.2.2.2
          refine vl_of (hQ τ hF.1 hF.2.1 (fun j hj => ?_)) ?_
          · rw [q2] at hj
            split at hj
            · exact ⟨hF.2.2.1 j (by omega), hF.2.2.2.1 j (by omega)⟩
            · omega
          · rw [q1]
            (first | (rw [if_pos (by omega)]; rfl) | (rw [if_neg (by omega)]; exact nI_z _))
        · refine A.al0 eX0_firstFault_33 ?_
          refine A.getI eX0_firstFault_34 fX0_25 (kuo hu) ?_
          refine A.top hl' ?_
          refine A.iconst (v := nI 3) eX0_firstFault_37 (by decide) ?_
          refine A.iremN eX0_firstFault_38 ?_
          refine A.iconst (v := nI 2) eX0_firstFault_39 (by decide) ?_
          refine A.icmp_neN eX0_firstFault_40 (fun c3 => ?_) (fun c3 => ?_)
          · refine A.al0 eX0_firstFault_47 ?_
            refine A.getI eX0_firstFault_48 fX0_25 (kuo hu) ?_
            refine A.top hl' ?_
            refine B.iret eX0_firstFault_51 ?_
            have e : i = n := by omega
            subst e
            obtain ⟨q1, q2⟩ := flt_ok hF.2.2.2.2
            refine vl_of (hQ τ hF.1 hF.2.1 (fun j hj => ?_)) ?_
            · rw [q2] at hj
              split at hj
              · exact ⟨hF.2.2.1 j (by omega), hF.2.2.2.1 j (by omega)⟩
              · omega
            · rw [q1]
              (first | (rw [if_pos (by omega)]; rfl) | (rw [if_neg (by omega)]; exact nI_z _))
          · refine A.iconst (v := -1) eX0_firstFault_43 (by decide) ?_
            refine A.goto eX0_firstFault_44 ?_
            refine B.iret eX0_firstFault_51 ?_
            have e : i = n := by omega
            subst e
            obtain ⟨q1, q2⟩ := flt_ok hF.2.2.2.2
            refine vl_of (hQ τ hF.1 hF.2.1 (fun j hj => ?_)) ?_
            · rw [q2] at hj
              split at hj
              · exact ⟨hF.2.2.1 j (by omega), hF.2.2.2.1 j (by omega)⟩
              · omega
            · rw [q1]
              (first | (rw [if_pos (by omega)]; rfl) | (rw [if_neg (by omega)]; exact nI_z _))
      · refine A.al0 eX0_firstFault_10 ?_
        refine A.il1 eX0_firstFault_11 ?_
        refine A.cVi1 eX0_firstFault_12 oX0_goesOn kX0_49 (kuo hu) (sX0_goesOn hu (by omega) (by rw [hF.1 (u + 1) (by omega) (by omega)]; exact (hbx i (by omega)).1) (hbx i (by omega)).2 (by rw [hF.1 u (by omega) (by omega)]; exact ht0) (fun h3 => ⟨by rw [hF.2.2.1 (i / 3) (by omega), show 3 * (i / 3) = i - 1 by omega], (okb0 (by omega)).mp (hF.2.2.2.2 (i - 1) (by omega))⟩) ?_)
        refine A.if_neB eX0_firstFault_15 (fun c2 => ?_) (fun c2 => ?_)
        · refine A.inc1N eX0_firstFault_20 ?_
          refine A.goto eX0_firstFault_23 ?_
          exact ih (i + 1) _ (by omega) (by omega) (hF.step c2)
        · refine A.il1 eX0_firstFault_18 ?_
          refine B.iret eX0_firstFault_19 ?_
          obtain ⟨q1, q2⟩ := flt_bad hF.2.2.2.2 (show i < n by omega) c2
          have q3 := @goS_frame u tx i τ
          have := hQ (goS u tx i τ) (fun k a b => (q3.1 k a b).trans (hF.1 k a b)) (q3.2.trans hF.2.1) (fun j hj => by rw [q2] at hj; omega)
          rw [q1] at this
          rw [nI_z]; exact this
  exact lp (n + 1) 0 σ (by omega) (by omega) ⟨fun _ _ _ => rfl, rfl, fun j hj => by omega, fun j hj => by omega, fun k hk => by omega⟩
set_option maxRecDepth 100000 in
set_option maxHeartbeats 4000000 in
theorem sX0_parse {G : GW} {σ : St} {K : St → Prop} {u n : Nat} {tx : Nat → Nat} (hu : Vu u) (hI : LI σ u n tx) (hQ : ∀ τ : St, Lf σ τ u → Lq τ u n tx → K τ) : Cv G (r0 3 63) mX0_parse [rf G u] σ K := by
  refine Cv.of [some (rf G u)] ?_
  have hlb := lb_le u
  obtain ⟨ht0, hl, hnb, hbx⟩ := id hI
  refine A.al0 eX0_parse_0 ?_
  refine A.al0 eX0_parse_1 ?_
  refine A.cVi0 eX0_parse_2 oX0_firstFault kX0_45 (kuo hu) (sX0_firstFault hu hI (fun τ g1 g2 g3 => ?_))
  refine A.putI eX0_parse_5 pX0_31 (kuo hu) ?_
  refine A.al0 eX0_parse_8 ?_
  refine A.al0 eX0_parse_9 ?_
  refine A.getI eX0_parse_10 fX0_31 (kuo hu) ?_
  refine A.top (show _ = zI (flt u tx n) from by simp [ur, upd]) ?_
  refine A.top rfl ?_
  refine A.iconst (v := -1) eX0_parse_13 (by decide) ?_
  refine A.icmp_ne eX0_parse_14 (fun c1 => ?_) (fun c1 => ?_)
  · refine A.iconst (v := nI 0) eX0_parse_28 (by decide) ?_
    refine A.putI eX0_parse_29 pX0_28 (kuo hu) ?_
    refine B.vret eX0_parse_32 ?_
    have hfr : fbad u tx n ≤ n := fbad_le u tx n
    have h23 : flt u tx n ≤ 23 ∧ -1 ≤ flt u tx n := by
      unfold flt
      split
      · omega
      · split <;> omega
    have hm : zI (flt u tx n) = -1 ↔ flt u tx n = -1 := zI_eq (b := -1) (by omega) (by omega) (by omega) (by omega)
    refine hQ _ ⟨fun k a b c => by simp [ur, a, g1 k b c], g2, fun j a b => by simp [ur, upd, a, b, g1]⟩ ⟨by simp [ur, upd], ?_, fun j hj => by simp [ur]; exact g3 j hj⟩
    have he : ents u tx n = if flt u tx n = -1 then (n + 1) / 3 else 0 := by
      unfold ents flt
      split
      · rw [if_neg (by omega)]
      · split
        · rw [if_pos rfl]
        · rw [if_neg (by omega)]
    rw [he]
    simp only [ur, upd, if_true]
    first
      | (rw [if_pos (hm.mp c1)])
      | (rw [if_neg (fun z => c1 (hm.mpr z))])
  · refine A.al0 eX0_parse_17 ?_
    refine A.getI eX0_parse_18 fX0_25 (kuo hu) ?_
    refine A.top (show _ = nI n from by simp [ur, upd, g1]; exact hl) ?_
    refine A.iconst (v := nI 1) eX0_parse_21 (by decide) ?_
    refine A.iaddN eX0_parse_22 ?_
    refine A.iconst (v := nI 3) eX0_parse_23 (by decide) ?_
    refine A.idivN eX0_parse_24 ?_
    refine A.goto eX0_parse_25 ?_
    refine A.putI eX0_parse_29 pX0_28 (kuo hu) ?_
    refine B.vret eX0_parse_32 ?_
    have hfr : fbad u tx n ≤ n := fbad_le u tx n
    have h23 : flt u tx n ≤ 23 ∧ -1 ≤ flt u tx n := by
      unfold flt
      split
      · omega
      · split <;> omega
    have hm : zI (flt u tx n) = -1 ↔ flt u tx n = -1 := zI_eq (b := -1) (by omega) (by omega) (by omega) (by omega)
    refine hQ _ ⟨fun k a b c => by simp [ur, a, g1 k b c], g2, fun j a b => by simp [ur, upd, a, b, g1]⟩ ⟨by simp [ur, upd], ?_, fun j hj => by simp [ur]; exact g3 j hj⟩
    have he : ents u tx n = if flt u tx n = -1 then (n + 1) / 3 else 0 := by
      unfold ents flt
      split
      · rw [if_neg (by omega)]
      · split
        · rw [if_pos rfl]
        · rw [if_neg (by omega)]
    rw [he]
    simp only [ur, upd, if_true]
    first
      | (rw [if_pos (hm.mp c1)])
      | (rw [if_neg (fun z => c1 (hm.mpr z))])
set_option maxRecDepth 100000 in
set_option maxHeartbeats 4000000 in
theorem sX0_append {G : GW} {σ : St} {K : St → Prop} {u n b : Nat} {tx : Nat → Nat} (hu : Vu u) (hI : LI σ u n tx) (hb : b < 256) (hr : n < lb u) (hQ : ∀ τ : St, Lf2 σ τ u → LI τ u (n + 1) (fun i => if i = n then b else tx i) → Lq τ u (n + 1) (fun i => if i = n then b else tx i) → K τ) : Cv G (r0 4 83) mX0_append [rf G u, .int (nI b)] σ K := by
  refine Cv.of [some (rf G u), some (.int (nI b))] ?_
  have hlb := lb_le u
  obtain ⟨ht0, hl, hnb, hbx⟩ := id hI
  refine A.al0 eX0_append_0 ?_
  refine A.cVi0 eX0_append_1 oX0_hasRoom kX0_34 (kuo hu) (sX0_hasRoom hu hl hnb ?_)
  refine A.if_eqB eX0_append_4 (fun c1 => ?_) (fun c1 => ?_)
  · exact absurd hr (by assumption)
  · refine A.al0 eX0_append_7 ?_
    refine A.getR eX0_append_8 fX0_15 (kuo hu) (kur1 hu) ?_
    refine A.al0 eX0_append_11 ?_
    refine A.getI eX0_append_12 fX0_25 (kuo hu) ?_
    refine A.top (show _ = nI n from by first | exact hl | (simp [ur, upd]; exact hl)) ?_
    refine A.il1 eX0_append_15 ?_
    refine A.iastN eX0_append_16 (ku1 hu) ?_
    refine A.al0 eX0_append_17 ?_
    refine A.dup eX0_append_18 rfl ?_
    refine A.getI eX0_append_19 fX0_25 (kuo hu) ?_
    refine A.top (show _ = nI n from by first | exact hl | (simp [ur, upd]; exact hl)) ?_
    refine A.iconst (v := nI 1) eX0_append_22 (by decide) ?_
    refine A.iaddN eX0_append_23 ?_
    refine A.putI eX0_append_24 pX0_25 (kuo hu) ?_
    refine A.al0 eX0_append_27 ?_
    refine A.cVv0 eX0_append_28 oX0_parse kX0_38 (kuo hu) (sX0_parse (n := n + 1) (tx := (fun i => if i = n then b else tx i)) hu ⟨by simp [ur, upd]; exact ht0, by simp [ur, upd], by omega, fun i hi => ?_⟩ (fun τ g1 g2 => ?_))
    · by_cases e : i = n
      · subst e; simp [ur, upd, hb]
      · have := hbx i (by omega)
        simp [ur, upd, e, this]
    refine B.vret eX0_append_31 ?_
    refine hQ τ ⟨fun k a b c d => ?_, ?_⟩ ⟨?_, ?_, by omega, fun i hi => ?_⟩ g2
    · rw [g1.1 k a c d]; simp [ur, a, b]
    · exact g1.2.1
    · rw [g1.2.2 0 (by omega) (by omega)]; simp [ur, upd]; exact ht0
    · rw [g1.2.2 4 (by omega) (by omega)]; simp [ur, upd]
    · rw [g1.1 (u + 1) (by omega) (by omega) (by omega)]
      by_cases e : i = n
      · subst e; simp [ur, upd, hb]
      · have := hbx i (by omega)
        simp [ur, upd, e, this]
set_option maxRecDepth 100000 in
set_option maxHeartbeats 4000000 in
theorem sX0_shorten {G : GW} {σ : St} {K : St → Prop} {u n m : Nat} {tx : Nat → Nat} (hu : Vu u) (hI : LI σ u n tx) (hm : m ≤ n) (hQ : ∀ τ : St, Lf2 σ τ u → LI τ u m tx → Lq τ u m tx → K τ) : Cv G (r0 4 83) mX0_shorten [rf G u, .int (nI m)] σ K := by
  refine Cv.of [some (rf G u), some (.int (nI m))] ?_
  have hlb := lb_le u
  obtain ⟨ht0, hl, hnb, hbx⟩ := id hI
  refine A.al0 eX0_shorten_0 ?_
  refine A.il1 eX0_shorten_1 ?_
  refine A.putI eX0_shorten_2 pX0_25 (kuo hu) ?_
  refine A.al0 eX0_shorten_5 ?_
  refine A.cVv0 eX0_shorten_6 oX0_parse kX0_38 (kuo hu) (sX0_parse (n := m) (tx := tx) hu ⟨by simp [ur, upd]; exact ht0, by simp [ur, upd], by omega, fun i hi => by have := hbx i (by omega); simp [ur, upd, this]⟩ (fun τ g1 g2 => ?_))
  refine B.vret eX0_shorten_9 ?_
  refine hQ τ ⟨fun k a b c d => ?_, ?_⟩ ⟨?_, ?_, by omega, fun i hi => ?_⟩ g2
  · rw [g1.1 k a c d]; simp [ur, a]
  · exact g1.2.1
  · rw [g1.2.2 0 (by omega) (by omega)]; simp [ur, upd]; exact ht0
  · rw [g1.2.2 4 (by omega) (by omega)]; simp [ur, upd]
  · rw [g1.1 (u + 1) (by omega) (by omega) (by omega)]
    have := hbx i (by omega)
    simp [ur, this]
set_option maxRecDepth 100000 in
set_option maxHeartbeats 4000000 in
theorem sX2_hasRoom {G : GW} {σ : St} {K : Int32 → St → Prop} {t n : Nat} (ht : Vt t) (hl : σ.1 t 3 = nI n) (hn : n ≤ tl t) (hQ : K (bI (n < tl t)) σ) : Ci G (r0 0 0) mX2_hasRoom [rf G t] σ K := by
  refine Ci.of [some (rf G t)] ?_
  have htl := tl_le t
  refine A.al0 eX2_hasRoom_0 ?_
  refine A.getI eX2_hasRoom_1 fX2_19 (kto ht) ?_
  refine A.top hl ?_
  refine A.al0 eX2_hasRoom_4 ?_
  refine A.getR eX2_hasRoom_5 fX2_7 (kto ht) (ktr0 ht) ?_
  refine A.alenN eX2_hasRoom_8 (kt1 ht) ?_
  refine A.icmp_geN eX2_hasRoom_9 (fun c1 => ?_) (fun c1 => ?_)
  · refine A.iconst (v := nI 0) eX2_hasRoom_16 (by decide) ?_
    refine B.zret eX2_hasRoom_17 (by decide) ?_
    (first | exact vl_of hQ (bI_t (by omega)).symm | exact vl_of hQ (bI_f (by omega)).symm)
  · refine A.iconst (v := nI 1) eX2_hasRoom_12 (by decide) ?_
    refine A.goto eX2_hasRoom_13 ?_
    refine B.zret eX2_hasRoom_17 (by decide) ?_
    (first | exact vl_of hQ (bI_t (by omega)).symm | exact vl_of hQ (bI_f (by omega)).symm)
set_option maxRecDepth 100000 in
set_option maxHeartbeats 4000000 in
theorem sX2_add {G : GW} {σ : St} {K : St → Prop} {t n : Nat} {x y z : Int32} (ht : Vt t) (hl : σ.1 t 3 = nI n) (hn : n < tl t) (hQ : K (tadd σ t n x y z)) : Cv G (r0 1 20) mX2_add [rf G t, .int x, .int y, .int z] σ K := by
  refine Cv.of [some (rf G t), some (.int x), some (.int y), some (.int z)] ?_
  have htl := tl_le t
  refine A.al0 eX2_add_0 ?_
  refine A.cVi0 eX2_add_1 oX2_hasRoom kX2_23 (kto ht) (sX2_hasRoom ht hl (by omega) ?_)
  refine A.if_eqB eX2_add_4 (fun c1 => ?_) (fun c1 => ?_)
  · exact absurd hn (by assumption)
  · refine A.al0 eX2_add_7 ?_
    refine A.getR eX2_add_8 fX2_7 (kto ht) (ktr0 ht) ?_
    refine A.al0 eX2_add_11 ?_
    refine A.getI eX2_add_12 fX2_19 (kto ht) ?_
    refine A.top (show _ = nI n from by first | exact hl | (simp [ur, upd]; exact hl)) ?_
    refine A.il1 eX2_add_15 ?_
    refine A.iastN eX2_add_16 (kt1 ht) ?_
    refine A.al0 eX2_add_17 ?_
    refine A.getR eX2_add_18 fX2_13 (kto ht) (ktr1 ht) ?_
    refine A.al0 eX2_add_21 ?_
    refine A.getI eX2_add_22 fX2_19 (kto ht) ?_
    refine A.top (show _ = nI n from by first | exact hl | (simp [ur, upd]; exact hl)) ?_
    refine A.il2 eX2_add_25 ?_
    refine A.iastN eX2_add_26 (kt2 ht) ?_
    refine A.al0 eX2_add_27 ?_
    refine A.getR eX2_add_28 fX2_16 (kto ht) (ktr2 ht) ?_
    refine A.al0 eX2_add_31 ?_
    refine A.getI eX2_add_32 fX2_19 (kto ht) ?_
    refine A.top (show _ = nI n from by first | exact hl | (simp [ur, upd]; exact hl)) ?_
    refine A.il3 eX2_add_35 ?_
    refine A.iastN eX2_add_36 (kt3 ht) ?_
    refine A.al0 eX2_add_37 ?_
    refine A.dup eX2_add_38 rfl ?_
    refine A.getI eX2_add_39 fX2_19 (kto ht) ?_
    refine A.top (show _ = nI n from by first | exact hl | (simp [ur, upd]; exact hl)) ?_
    refine A.iconst (v := nI 1) eX2_add_42 (by decide) ?_
    refine A.iaddN eX2_add_43 ?_
    refine A.putI eX2_add_44 pX2_19 (kto ht) ?_
    refine B.vret eX2_add_47 ?_
    exact st_of hQ (by simp [tadd, ur])
set_option maxRecDepth 100000 in
set_option maxHeartbeats 4000000 in
theorem sX2_dropLast {G : GW} {σ : St} {K : St → Prop} {t n : Nat} (ht : Vt t) (hl : σ.1 t 3 = nI n) (h0 : 0 < n) (hn : n ≤ tl t) (hQ : K (ur σ t (upd (σ.1 t) 3 (nI (n - 1))))) : Cv G (r0 1 21) mX2_dropLast [rf G t] σ K := by
  refine Cv.of [some (rf G t)] ?_
  have htl := tl_le t
  refine A.al0 eX2_dropLast_0 ?_
  refine A.al0 eX2_dropLast_1 ?_
  refine A.getI eX2_dropLast_2 fX2_19 (kto ht) ?_
  refine A.top hl ?_
  refine A.iconst (v := nI 1) eX2_dropLast_5 (by decide) ?_
  refine A.isubN eX2_dropLast_6 ?_
  refine A.iconst (v := nI 0) eX2_dropLast_7 (by decide) ?_
  refine A.mmaxN eX2_dropLast_8 kX2_27 ?_
  refine A.putI eX2_dropLast_11 pX2_19 (kto ht) ?_
  refine B.vret eX2_dropLast_14 ?_
  exact st_of hQ (by rw [Nat.max_eq_left (by omega)])
set_option maxRecDepth 100000 in
set_option maxHeartbeats 4000000 in
theorem sX2_clear {G : GW} {σ : St} {K : St → Prop} {t : Nat} (ht : Vt t) (hQ : K (ur σ t (upd (σ.1 t) 3 (nI 0)))) : Cv G (r0 0 0) mX2_clear [rf G t] σ K := by
  refine Cv.of [some (rf G t)] ?_
  refine A.al0 eX2_clear_0 ?_
  refine A.iconst (v := nI 0) eX2_clear_1 (by decide) ?_
  refine A.putI eX2_clear_2 pX2_19 (kto ht) ?_
  refine B.vret eX2_clear_5 ?_
  exact hQ
set_option maxRecDepth 100000 in
set_option maxHeartbeats 4000000 in
theorem sX1_isLost {G : GW} {σ : St} {K : Int32 → St → Prop} {s : Nat} (hs : Vs s) (hQ : K (bI (σ.1 s 1 = -1)) σ) : Ci G (r0 0 0) mX1_isLost [rf G s] σ K := by
  refine Ci.of [some (rf G s)] ?_
  refine A.al0 eX1_isLost_0 ?_
  refine A.getI eX1_isLost_1 fX1_15 (kso hs) ?_
  refine A.iconst (v := -1) eX1_isLost_4 (by decide) ?_
  refine A.icmp_ne eX1_isLost_5 (fun c1 => ?_) (fun c1 => ?_)
  · refine A.iconst (v := nI 0) eX1_isLost_12 (by decide) ?_
    refine B.zret eX1_isLost_13 (by decide) ?_
    (first | exact vl_of hQ (bI_t (by assumption)).symm | exact vl_of hQ (bI_f (by assumption)).symm)
  · refine A.iconst (v := nI 1) eX1_isLost_8 (by decide) ?_
    refine A.goto eX1_isLost_9 ?_
    refine B.zret eX1_isLost_13 (by decide) ?_
    (first | exact vl_of hQ (bI_t (by assumption)).symm | exact vl_of hQ (bI_f (by assumption)).symm)
set_option maxRecDepth 100000 in
set_option maxHeartbeats 4000000 in
theorem sX1_drop {G : GW} {σ : St} {K : St → Prop} {s : Nat} (hs : Vs s) (hQ : K (ur σ s (upd (upd (σ.1 s) 1 (-1)) 2 (nI 0)))) : Cv G (r0 0 0) mX1_drop [rf G s] σ K := by
  refine Cv.of [some (rf G s)] ?_
  refine A.al0 eX1_drop_0 ?_
  refine A.iconst (v := -1) eX1_drop_1 (by decide) ?_
  refine A.putI eX1_drop_2 pX1_15 (kso hs) ?_
  refine A.al0 eX1_drop_5 ?_
  refine A.iconst (v := nI 0) eX1_drop_6 (by decide) ?_
  refine A.putI eX1_drop_7 pX1_19 (kso hs) ?_
  refine B.vret eX1_drop_10 ?_
  exact st_of hQ (by rw [ur_ur, ur_s])
set_option maxRecDepth 100000 in
set_option maxHeartbeats 4000000 in
theorem sX1_renew {G : GW} {σ : St} {K : St → Prop} {s : Nat} {x y : Int32} (hs : Vs s) (hQ : ∀ τ : St, (∀ k, k ≠ s → k ≠ s + 1 → τ.1 k = σ.1 k) → τ.2 = σ.2 → τ.1 s = upd (upd (σ.1 s) 1 x) 2 y → (∀ j, j < 60 → τ.1 (s + 1) j = 0) → K τ) : Cv G (r0 0 0) mX1_renew [rf G s, .int x, .int y] σ K := by
  refine Cv.of [some (rf G s), some (.int x), some (.int y), none] ?_
  refine A.al0 eX1_renew_0 ?_
  refine A.il1 eX1_renew_1 ?_
  refine A.putI eX1_renew_2 pX1_15 (kso hs) ?_
  refine A.al0 eX1_renew_5 ?_
  refine A.il2 eX1_renew_6 ?_
  refine A.putI eX1_renew_7 pX1_19 (kso hs) ?_
  refine A.iconst (v := nI 0) eX1_renew_10 (by decide) ?_
  refine A.is3 eX1_renew_11 ?_
  have lp : ∀ (fu i : Nat), 60 - i < fu → i ≤ 60 → B G (r0 0 0) mX1_renew 12 [some (rf G s), some (.int x), some (.int y), some (.int (nI i))] [] (ur (ur σ s (upd (upd (σ.1 s) 1 x) 2 y)) (s + 1) (fun j => if j < i then 0 else σ.1 (s + 1) j)) (Pv K) := by
    intro fu
    induction fu with
    | zero => intro i  h1 h2; omega
    | succ fu ih =>
      intro i  h1 h2 
      refine A.il3 eX1_renew_12 ?_
      refine A.al0 eX1_renew_13 ?_
      refine A.getR eX1_renew_14 fX1_9 (kso hs) (ksr0 hs) ?_
      refine A.alenN eX1_renew_17 (ks1 hs) ?_
      refine A.icmp_geN eX1_renew_18 (fun c1 => ?_) (fun c1 => ?_)
      · refine B.vret eX1_renew_34 ?_
        have e : i = 60 := by omega
        subst e
        exact hQ _ (fun k a b => by simp [ur, a, b]) rfl (by simp [ur]) (fun j hj => by simp [ur, hj])
      · refine A.al0 eX1_renew_21 ?_
        refine A.getR eX1_renew_22 fX1_9 (kso hs) (ksr0 hs) ?_
        refine A.il3 eX1_renew_25 ?_
        refine A.iconst (v := nI 0) eX1_renew_26 (by decide) ?_
        refine A.iastN eX1_renew_27 (ks1 hs) ?_
        refine A.inc3N eX1_renew_28 ?_
        refine A.goto eX1_renew_31 ?_
        exact A.eq (by rfl) rfl (by rw [ur_ur, ur_s]; congr 1; funext j; simp only [upd]; by_cases e : j = i <;> by_cases e2 : j < i <;> simp [e, e2] <;> first | rfl | omega) (ih (i + 1) (by omega) (by omega))
  refine A.eq rfl rfl ?_ (lp 61 0 (by omega) (by omega))
  rw [ur_ur, ur_s]
  have e : (fun j => if j < 0 then (0 : Int32) else σ.1 (s + 1) j) = (ur σ s (upd (upd (σ.1 s) 1 x) 2 y)).1 (s + 1) := by funext j; simp [ur]
  rw [e, ur_id]
set_option maxRecDepth 100000 in
set_option maxHeartbeats 4000000 in
theorem sX1_item {G : GW} {σ : St} {K : Int32 → St → Prop} {s z i : Nat} (hs : Vs s) (hz : σ.1 s 2 = nI z) (hz6 : z ≤ 60) (hi : i < z) (hQ : K (σ.1 (s + 1) i) σ) : Ci G (r0 1 21) mX1_item [rf G s, .int (nI i)] σ K := by
  refine Ci.of [some (rf G s), some (.int (nI i))] ?_
  refine A.il1 eX1_item_0 ?_
  refine A.al0 eX1_item_1 ?_
  refine A.getI eX1_item_2 fX1_19 (kso hs) ?_
  refine A.top hz ?_
  refine A.cNi2 eX1_item_5 oX4_isBelow (fun s h => h.2.2.1) (sX4_isBelowN (by omega) (by omega) ?_)
  refine A.if_eqB eX1_item_8 (fun c1 => ?_) (fun c1 => ?_)
  · exact absurd hi (by assumption)
  · refine A.al0 eX1_item_11 ?_
    refine A.getR eX1_item_12 fX1_9 (kso hs) (ksr0 hs) ?_
    refine A.il1 eX1_item_15 ?_
    refine A.ialdN eX1_item_16 (ks1 hs) ?_
    refine A.goto eX1_item_17 ?_
    refine B.iret eX1_item_21 ?_
    exact hQ
set_option maxRecDepth 100000 in
set_option maxHeartbeats 4000000 in
theorem sX1_put {G : GW} {σ : St} {K : St → Prop} {s z i : Nat} {x : Int32} (hs : Vs s) (hz : σ.1 s 2 = nI z) (hz6 : z ≤ 60) (hi : i < z) (hQ : K (ur σ (s + 1) (upd (σ.1 (s + 1)) i (cutI (σ.1 s 1) x)))) : Cv G (r0 1 21) mX1_put [rf G s, .int (nI i), .int x] σ K := by
  refine Cv.of [some (rf G s), some (.int (nI i)), some (.int x)] ?_
  refine A.il1 eX1_put_0 ?_
  refine A.al0 eX1_put_1 ?_
  refine A.getI eX1_put_2 fX1_19 (kso hs) ?_
  refine A.top hz ?_
  refine A.cNi2 eX1_put_5 oX4_isBelow (fun s h => h.2.2.1) (sX4_isBelowN (by omega) (by omega) ?_)
  refine A.if_eqB eX1_put_8 (fun c1 => ?_) (fun c1 => ?_)
  · exact absurd hi (by assumption)
  · refine A.al0 eX1_put_11 ?_
    refine A.getR eX1_put_12 fX1_9 (kso hs) (ksr0 hs) ?_
    refine A.il1 eX1_put_15 ?_
    refine A.al0 eX1_put_16 ?_
    refine A.getI eX1_put_17 fX1_15 (kso hs) ?_
    refine A.if_ne eX1_put_20 (fun c2 => ?_) (fun c2 => ?_)
    · refine A.al0 eX1_put_28 ?_
      refine A.getI eX1_put_29 fX1_15 (kso hs) ?_
      refine A.iconst (v := nI 1) eX1_put_32 (by decide) ?_
      refine A.icmp_ne eX1_put_33 (fun c3 => ?_) (fun c3 => ?_)
      · refine A.il2 eX1_put_41 ?_
        refine A.iastN eX1_put_42 (ks1 hs) ?_
        refine B.vret eX1_put_43 ?_
        refine st_of hQ ?_
        congr 2
        unfold cutI
        (first | (rw [if_pos c2]) | (rw [if_neg c2, if_pos c3]) | (rw [if_neg c2, if_neg c3]))
      · refine A.il2 eX1_put_36 ?_
        refine A.i2s eX1_put_37 rfl ?_
        refine A.goto eX1_put_38 ?_
        refine A.iastN eX1_put_42 (ks1 hs) ?_
        refine B.vret eX1_put_43 ?_
        refine st_of hQ ?_
        congr 2
        unfold cutI
        (first | (rw [if_pos c2]) | (rw [if_neg c2, if_pos c3]) | (rw [if_neg c2, if_neg c3]))
    · refine A.il2 eX1_put_23 ?_
      refine A.i2b eX1_put_24 rfl ?_
      refine A.goto eX1_put_25 ?_
      refine A.iastN eX1_put_42 (ks1 hs) ?_
      refine B.vret eX1_put_43 ?_
      refine st_of hQ ?_
      congr 2
      unfold cutI
      (first | (rw [if_pos c2]) | (rw [if_neg c2, if_pos c3]) | (rw [if_neg c2, if_neg c3]))
set_option maxRecDepth 100000 in
set_option maxHeartbeats 4000000 in
theorem sX1_holds {G : GW} {σ : St} {K : Int32 → St → Prop} {s z : Nat} {x y : Int32} (hs : Vs s) (hz : σ.1 s 2 = nI z) (hz6 : z ≤ 60) (hQ : K (bI (0 ≤ x.toInt ∧ 0 ≤ y.toInt ∧ x.toInt + y.toInt ≤ z)) σ) : Ci G (r0 0 0) mX1_holds [rf G s, .int x, .int y] σ K := by
  refine Ci.of [some (rf G s), some (.int x), some (.int y)] ?_
  refine A.il1 eX1_holds_0 ?_
  refine A.if_ltI eX1_holds_1 (fun c1 => ?_) (fun c1 => ?_)
  · refine A.iconst (v := nI 0) eX1_holds_30 (by decide) ?_
    refine B.zret eX1_holds_31 (by decide) ?_
    (try rw [nI_ti (by omega)] at c3)
    (try rw [nI_ti (by omega)] at c4)
    (first | exact vl_of hQ (bI_t (by omega)).symm | exact vl_of hQ (bI_f (by omega)).symm)
  · refine A.il2 eX1_holds_4 ?_
    refine A.if_ltI eX1_holds_5 (fun c2 => ?_) (fun c2 => ?_)
    · refine A.iconst (v := nI 0) eX1_holds_30 (by decide) ?_
      refine B.zret eX1_holds_31 (by decide) ?_
      (try rw [nI_ti (by omega)] at c3)
      (try rw [nI_ti (by omega)] at c4)
      (first | exact vl_of hQ (bI_t (by omega)).symm | exact vl_of hQ (bI_f (by omega)).symm)
    · refine A.il1 eX1_holds_8 ?_
      refine A.al0 eX1_holds_9 ?_
      refine A.getI eX1_holds_10 fX1_19 (kso hs) ?_
      refine A.top hz ?_
      refine A.icmp_gtI eX1_holds_13 (fun c3 => ?_) (fun c3 => ?_)
      · refine A.iconst (v := nI 0) eX1_holds_30 (by decide) ?_
        refine B.zret eX1_holds_31 (by decide) ?_
        (try rw [nI_ti (by omega)] at c3)
        (try rw [nI_ti (by omega)] at c4)
        (first | exact vl_of hQ (bI_t (by omega)).symm | exact vl_of hQ (bI_f (by omega)).symm)
      · obtain ⟨a, ha, rfl⟩ := i_nat (n := z + 1) c1 (by rw [nI_ti (by omega)] at c3; omega)
        rw [nI_ti (by omega)] at c3 hQ
        refine A.il2 eX1_holds_16 ?_
        refine A.al0 eX1_holds_17 ?_
        refine A.getI eX1_holds_18 fX1_19 (kso hs) ?_
        refine A.top hz ?_
        refine A.il1 eX1_holds_21 ?_
        refine A.isubN eX1_holds_22 ?_
        refine A.icmp_gtI eX1_holds_23 (fun c4 => ?_) (fun c4 => ?_)
        · refine A.iconst (v := nI 0) eX1_holds_30 (by decide) ?_
          refine B.zret eX1_holds_31 (by decide) ?_
          (try rw [nI_ti (by omega)] at c3)
          (try rw [nI_ti (by omega)] at c4)
          (first | exact vl_of hQ (bI_t (by omega)).symm | exact vl_of hQ (bI_f (by omega)).symm)
        · refine A.iconst (v := nI 1) eX1_holds_26 (by decide) ?_
          refine A.goto eX1_holds_27 ?_
          refine B.zret eX1_holds_31 (by decide) ?_
          (try rw [nI_ti (by omega)] at c3)
          (try rw [nI_ti (by omega)] at c4)
          (first | exact vl_of hQ (bI_t (by omega)).symm | exact vl_of hQ (bI_f (by omega)).symm)
