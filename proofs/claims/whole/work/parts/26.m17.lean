theorem A.gets {G : GW} {rm : Room} {M : MR} {kw mw : Nat × Nat} {pc q : Nat} {L : List (Option Value)} {S : List Value} {h : HD} {σ : St} {Q : Option Value → HD → St → Prop} {idx : Nat} (hd : Ix M pc q (.getstatic idx) 3) (hlk : Cond.fieldLink M.1.cls idx RX4 "DIGEST_HOURS" "[I" ∈ gt) (kk : A G rm M kw mw q L (.ref (gU G) :: S) h σ Q) : A G rm M kw mw pc L S h σ Q := by
  intro p e s m args below meth cc ls H locs C hl hP hz hS
  obtain ⟨hd, rfl⟩ := hd
  have hV := C.2.2.2.2.2.2.2.2.1
  have hZ := va_Z.kept hV.2.2.2.2.2.1 (fun a ha _ => C.2.2.2.2.2.2.2.2.2.2 a (by rw [hV.2.2.2.2.2.2.2.2.2] at ha; exact ha))
  exact va_gets C.1 C.2.1 hZ hS C.2.2.2.2.2.2.1 (C.2.2.2.2.2.2.2.1 _ hlk) (fun _ h9 => h9) hd (kk p e s m args below meth cc ls H locs C hl hP hz hS)
theorem A.ulen {G : GW} {rm : Room} {M : MR} {kw mw : Nat × Nat} {pc q : Nat} {L : List (Option Value)} {S : List Value} {h : HD} {σ : St} {Q : Option Value → HD → St → Prop} (hd : Ix M pc q .arraylength 1) (kk : A G rm M kw mw q L (.int (nI 4) :: S) h σ Q) : A G rm M kw mw pc L (.ref (gU G) :: S) h σ Q := by
  intro p e s m args below meth cc ls H locs C hl hP hz hS
  obtain ⟨hd, rfl⟩ := hd
  have hV := C.2.2.2.2.2.2.2.2.1
  have hT := va_T.kept hV.2.2.2.2.2.2.1 (fun a ha _ => C.2.2.2.2.2.2.2.2.2.2 a (by rw [hV.2.2.2.2.2.2.2.2.2] at ha; exact ha))
  exact va_tlen C.1 C.2.1 hT hS rfl hd (kk p e s m args below meth cc ls H locs C hl hP hz hS)
def dhN (j : Nat) : Nat := match j with
  | 0 => 0
  | 1 => 1
  | 2 => 5
  | _ => 23
theorem dh_N : ∀ j, j < 4 → dh j = .int (nI (dhN j)) ∧ dhN j < 24 := by
  intro j hj
  rcases (show j = 0 ∨ j = 1 ∨ j = 2 ∨ j = 3 by omega) with rfl | rfl | rfl | rfl <;> exact ⟨rfl, by decide⟩
theorem A.uld {G : GW} {rm : Room} {M : MR} {kw mw : Nat × Nat} {pc q : Nat} {L : List (Option Value)} {S : List Value} {h : HD} {σ : St} {Q : Option Value → HD → St → Prop} {j : Nat} (hd : Ix M pc q .iaload 1) (hj : j < 4) (kk : A G rm M kw mw q L (.int (nI (dhN j)) :: S) h σ Q) : A G rm M kw mw pc L (.int (nI j) :: .ref (gU G) :: S) h σ Q := by
  intro p e s m args below meth cc ls H locs C hl hP hz hS
  obtain ⟨hd, rfl⟩ := hd
  have hV := C.2.2.2.2.2.2.2.2.1
  have hT := va_T.kept hV.2.2.2.2.2.2.1 (fun a ha _ => C.2.2.2.2.2.2.2.2.2.2 a (by rw [hV.2.2.2.2.2.2.2.2.2] at ha; exact ha))
  have hc := nI_clamp (n := j) (by omega)
  exact va_ti C.1 C.2.1 hT hS (by
    intro z
    rcases z with z | z
    · exact nI_nn (by omega) z
    · rw [hc] at z; omega) (by rw [hc]; exact (dh_N j hj).1) hd (kk p e s m args below meth cc ls H locs C hl hP hz hS)
def mx (a b : Int64) : Int64 := 31 * a + b
def fld (f : Nat → Int64 → Int64) (a : Int64) : Nat → Int64
  | 0 => a
  | n + 1 => f n (fld f a n)
def mHa (x : XS) (h k : Nat) (a : Int64) : Int64 := mx (mx a (Rwhere x (nI h) (nI k)).toInt64) (Rbright x (nI h) (nI k)).toInt64
def mHb (x : XS) (h k : Nat) (a : Int64) : Int64 := mx (mx (mx a (Rcrowd x (nI h) (nI k)).toInt64) (Rsky x (nI h) (nI k) (nI 0))) (Rsky x (nI h) (nI k) (nI 1))
def mH (x : XS) (d : Int64) (h : Nat) : Int64 := fld (mHb x h) (fld (mHa x h) (mx d (Rmet x (nI h)).toInt64) (xp x)) (xq x)
def mP (x : XS) (d : Int64) (q : Nat) : Int64 :=
  let a := mx d (Rspoilt x (nI q)).toInt64
  let a := mx a (Rsend x (nI q) (nI 3) (nI 0)).toInt64
  let a := mx a (Rsend x (nI q) (nI 3) (nI 1)).toInt64
  let a := mx a (Rkeep x (nI q) (nI 2) (nI 5) (nI 0)).toInt64
  let a := mx a (Rkeep x (nI q) (nI 2) (nI 5) (nI 1)).toInt64
  let a := mx a (Rrow x (nI 1) (nI q) (-1)).toInt64
  let a := mx a (Rrow x (nI 1) (nI q) (nI 0)).toInt64
  let a := mx a (Rnews x (nI 5) (nI q) (nI 2) (nI 0))
  let a := mx a (Rnews x (nI 5) (nI q) (nI 2) (nI 1))
  mx a (Rroof x (nI 5) (nI q) (nI 0)).toInt64
def Rdigest (x : XS) : Int64 :=
  let a := fld (fun k a => mx a (Rcount x (nI k)).toInt64) 17 8
  let a := mx a (Rfault x (nI 0)).toInt64
  let a := mx a (Rfault x (nI 1)).toInt64
  let a := fld (fun k a => mH x a (dhN k)) a 4
  let a := fld (fun k a => mP x a k) a (xq x)
  let a := fld (fun k a => mx a (Rmay x (nI k)).toInt64) a (xp x)
  let a := mx a (Rlightning x (nI 0)).toInt64
  let a := mx a (Rlightning x (nI 1)).toInt64
  let a := mx a (Rsettles x).toInt64
  let a := mx a (Rhid x).toInt64
  let a := mx a (Rday x (nI 7) (-1)).toInt64
  mx a (Rday x (nI 7) (nI 0)).toInt64
set_option maxRecDepth 100000 in
set_option maxHeartbeats 4000000 in
theorem sX4_mixHour {G : GW} {σ : St} {K : Int64 → St → Prop} {x : XS} {d : Int64} {h : Nat} (hC : CI x σ) (hQ : ∀ τ : St, CI x τ → Fi 0 41 σ τ → K (mH x d h) τ) : Cl G (r0 5 110) mX4_mixHour [rf G 0, .long d, .int (nI h)] σ K := by
  refine Cl.of [some (rf G 0), some (.long d), none, some (.int (nI h)), none, none, none] ?_
  have n8 := hC.np8
  have q6 := hC.nq6
  refine A.ll1 eX4_mixHour_0 ?_
  refine A.al0 eX4_mixHour_1 ?_
  refine A.il3 eX4_mixHour_2 ?_
  refine A.cVi1 eX4_mixHour_3 oX4_met kX4_314 ko0 (aX4_met hC (fun τ0 kz0a kz0b => ?_))
  refine A.i2l eX4_mixHour_6 rfl ?_
  refine A.cSl2 eX4_mixHour_7 oX4_mix kX4_282 (sX4_mix ?_)
  refine A.ls4 eX4_mixHour_10 ?_
  refine A.iconst (v := nI 0) eX4_mixHour_12 (by decide) ?_
  refine A.is6 eX4_mixHour_13 ?_
  have lp : ∀ (fu i : Nat) (ξ : St), xp x - i < fu → i ≤ xp x → CI x ξ → Fi 0 41 σ ξ → B G (r0 5 110) mX4_mixHour 15 [some (rf G 0), some (.long d), none, some (.int (nI h)), some (.long (fld (mHa x h) (mx d (Rmet x (nI h)).toInt64) i)), none, some (.int (nI i))] [] (ξ) (Pl K) := by
    intro fu
    induction fu with
    | zero => intro i ξ h1 h2; omega
    | succ fu ih =>
      intro i ξ h1 h2 e1 e2
      refine A.il6 eX4_mixHour_15 ?_
      refine A.al0 eX4_mixHour_17 ?_
      refine A.getR eX4_mixHour_18 fX4_14 ko0 kr0_0 ?_
      refine A.getI eX4_mixHour_21 fX4_167 ko1 ?_
      refine A.top e1.np ?_
      refine A.icmp_geN eX4_mixHour_24 (fun c1 => ?_) (fun c1 => ?_)
      · refine A.iconst (v := nI 0) eX4_mixHour_63 (by decide) ?_
        refine A.is6 eX4_mixHour_64 ?_
        have lq : ∀ (fu j : Nat) (ξ : St), xq x - j < fu → j ≤ xq x → CI x ξ → Fi 0 41 σ ξ → B G (r0 5 110) mX4_mixHour 66 [some (rf G 0), some (.long d), none, some (.int (nI h)), some (.long (fld (mHb x h) (fld (mHa x h) (mx d (Rmet x (nI h)).toInt64) (xp x)) j)), none, some (.int (nI j))] [] (ξ) (Pl K) := by
          intro fu
          induction fu with
          | zero => intro j ξ h1 h2; omega
          | succ fu ih2 =>
            intro j ξ h1 h2 e1 e2
            refine A.il6 eX4_mixHour_66 ?_
            refine A.al0 eX4_mixHour_68 ?_
            refine A.getR eX4_mixHour_69 fX4_18 ko0 kr0_1 ?_
            refine A.getI eX4_mixHour_72 fX4_167 ko5 ?_
            refine A.top e1.nq ?_
            refine A.icmp_geN eX4_mixHour_75 (fun c2 => ?_) (fun c2 => ?_)
            · refine A.ll4 eX4_mixHour_129 ?_
              refine B.lret eX4_mixHour_131 ?_
              have e : j = xq x := by omega
              subst e
              exact hQ ξ e1 e2
            · refine A.ll4 eX4_mixHour_78 ?_
              refine A.al0 eX4_mixHour_80 ?_
              refine A.il3 eX4_mixHour_81 ?_
              refine A.il6 eX4_mixHour_82 ?_
              refine A.cVi2 eX4_mixHour_84 oX4_crowd kX4_323 ko0 (aX4_crowd e1 (fun τ0 kz0a kz0b => ?_))
              refine A.i2l eX4_mixHour_87 rfl ?_
              refine A.cSl2 eX4_mixHour_88 oX4_mix kX4_282 (sX4_mix ?_)
              refine A.ls4 eX4_mixHour_91 ?_
              refine A.ll4 eX4_mixHour_93 ?_
              refine A.al0 eX4_mixHour_95 ?_
              refine A.il3 eX4_mixHour_96 ?_
              refine A.il6 eX4_mixHour_97 ?_
              refine A.iconst (v := nI 0) eX4_mixHour_99 (by decide) ?_
              refine A.cVl3 eX4_mixHour_100 oX4_sky kX4_326 ko0 (aX4_sky kz0a (fun τ1 kz1a kz1b => ?_))
              refine A.cSl2 eX4_mixHour_103 oX4_mix kX4_282 (sX4_mix ?_)
              refine A.ls4 eX4_mixHour_106 ?_
              refine A.ll4 eX4_mixHour_108 ?_
              refine A.al0 eX4_mixHour_110 ?_
              refine A.il3 eX4_mixHour_111 ?_
              refine A.il6 eX4_mixHour_112 ?_
              refine A.iconst (v := nI 1) eX4_mixHour_114 (by decide) ?_
              refine A.cVl3 eX4_mixHour_115 oX4_sky kX4_326 ko0 (aX4_sky kz1a (fun τ2 kz2a kz2b => ?_))
              refine A.cSl2 eX4_mixHour_118 oX4_mix kX4_282 (sX4_mix ?_)
              refine A.ls4 eX4_mixHour_121 ?_
              refine A.inc6N eX4_mixHour_123 ?_
              refine A.goto eX4_mixHour_126 ?_
              exact ih2 (j + 1) τ2 (by omega) (by omega) kz2a (((e2.tr kz0b).tr kz1b).tr kz2b)
        have e : i = xp x := by omega
        subst e
        exact lq (xq x + 1) 0 ξ (by omega) (by omega) e1 e2
      · refine A.ll4 eX4_mixHour_27 ?_
        refine A.al0 eX4_mixHour_29 ?_
        refine A.il3 eX4_mixHour_30 ?_
        refine A.il6 eX4_mixHour_31 ?_
        refine A.cVi2 eX4_mixHour_33 oX4_where kX4_317 ko0 (aX4_where e1 (fun τ0 kz0a kz0b => ?_))
        refine A.i2l eX4_mixHour_36 rfl ?_
        refine A.cSl2 eX4_mixHour_37 oX4_mix kX4_282 (sX4_mix ?_)
        refine A.ls4 eX4_mixHour_40 ?_
        refine A.ll4 eX4_mixHour_42 ?_
        refine A.al0 eX4_mixHour_44 ?_
        refine A.il3 eX4_mixHour_45 ?_
        refine A.il6 eX4_mixHour_46 ?_
        refine A.cVi2 eX4_mixHour_48 oX4_bright kX4_320 ko0 (aX4_bright kz0a (fun τ1 kz1a kz1b => ?_))
        refine A.i2l eX4_mixHour_51 rfl ?_
        refine A.cSl2 eX4_mixHour_52 oX4_mix kX4_282 (sX4_mix ?_)
        refine A.ls4 eX4_mixHour_55 ?_
        refine A.inc6N eX4_mixHour_57 ?_
        refine A.goto eX4_mixHour_60 ?_
        exact ih (i + 1) τ1 (by omega) (by omega) kz1a ((e2.tr kz0b).tr kz1b)
  exact lp (xp x + 1) 0 τ0 (by omega) (by omega) kz0a ((Fi.rf 0 41 σ).tr kz0b)
set_option maxRecDepth 100000 in
set_option maxHeartbeats 4000000 in
theorem sX4_mixPlace {G : GW} {σ : St} {K : Int64 → St → Prop} {x : XS} {d : Int64} {q : Nat} (hC : CI x σ) (hQ : ∀ τ : St, CI x τ → Fi 0 41 σ τ → K (mP x d q) τ) : Cl G (r0 5 117) mX4_mixPlace [rf G 0, .long d, .int (nI q)] σ K := by
  refine Cl.of [some (rf G 0), some (.long d), none, some (.int (nI q)), none, none] ?_
  refine A.ll1 eX4_mixPlace_0 ?_
  refine A.al0 eX4_mixPlace_1 ?_
  refine A.il3 eX4_mixPlace_2 ?_
  refine A.cVi1 eX4_mixPlace_3 oX4_spoilt kX4_329 ko0 (aX4_spoilt hC (fun τ0 kz0a kz0b => ?_))
  refine A.i2l eX4_mixPlace_6 rfl ?_
  refine A.cSl2 eX4_mixPlace_7 oX4_mix kX4_282 (sX4_mix ?_)
  refine A.ls4 eX4_mixPlace_10 ?_
  refine A.ll4 eX4_mixPlace_12 ?_
  refine A.al0 eX4_mixPlace_14 ?_
  refine A.il3 eX4_mixPlace_15 ?_
  refine A.iconst (v := nI 3) eX4_mixPlace_16 (by decide) ?_
  refine A.iconst (v := nI 0) eX4_mixPlace_17 (by decide) ?_
  refine A.cVi3 eX4_mixPlace_18 oX4_send kX4_332 ko0 (aX4_send kz0a (fun τ1 kz1a kz1b => ?_))
  refine A.i2l eX4_mixPlace_21 rfl ?_
  refine A.cSl2 eX4_mixPlace_22 oX4_mix kX4_282 (sX4_mix ?_)
  refine A.ls4 eX4_mixPlace_25 ?_
  refine A.ll4 eX4_mixPlace_27 ?_
  refine A.al0 eX4_mixPlace_29 ?_
  refine A.il3 eX4_mixPlace_30 ?_
  refine A.iconst (v := nI 3) eX4_mixPlace_31 (by decide) ?_
  refine A.iconst (v := nI 1) eX4_mixPlace_32 (by decide) ?_
  refine A.cVi3 eX4_mixPlace_33 oX4_send kX4_332 ko0 (aX4_send kz1a (fun τ2 kz2a kz2b => ?_))
  refine A.i2l eX4_mixPlace_36 rfl ?_
  refine A.cSl2 eX4_mixPlace_37 oX4_mix kX4_282 (sX4_mix ?_)
  refine A.ls4 eX4_mixPlace_40 ?_
  refine A.ll4 eX4_mixPlace_42 ?_
  refine A.al0 eX4_mixPlace_44 ?_
  refine A.il3 eX4_mixPlace_45 ?_
  refine A.iconst (v := nI 2) eX4_mixPlace_46 (by decide) ?_
  refine A.iconst (v := nI 5) eX4_mixPlace_47 (by decide) ?_
  refine A.iconst (v := nI 0) eX4_mixPlace_48 (by decide) ?_
  refine A.cVi4 eX4_mixPlace_49 oX4_keep kX4_335 ko0 (aX4_keep kz2a (fun τ3 kz3a kz3b => ?_))
  refine A.i2l eX4_mixPlace_52 rfl ?_
  refine A.cSl2 eX4_mixPlace_53 oX4_mix kX4_282 (sX4_mix ?_)
  refine A.ls4 eX4_mixPlace_56 ?_
  refine A.ll4 eX4_mixPlace_58 ?_
  refine A.al0 eX4_mixPlace_60 ?_
  refine A.il3 eX4_mixPlace_61 ?_
  refine A.iconst (v := nI 2) eX4_mixPlace_62 (by decide) ?_
  refine A.iconst (v := nI 5) eX4_mixPlace_63 (by decide) ?_
  refine A.iconst (v := nI 1) eX4_mixPlace_64 (by decide) ?_
  refine A.cVi4 eX4_mixPlace_65 oX4_keep kX4_335 ko0 (aX4_keep kz3a (fun τ4 kz4a kz4b => ?_))
  refine A.i2l eX4_mixPlace_68 rfl ?_
  refine A.cSl2 eX4_mixPlace_69 oX4_mix kX4_282 (sX4_mix ?_)
  refine A.ls4 eX4_mixPlace_72 ?_
  refine A.ll4 eX4_mixPlace_74 ?_
  refine A.al0 eX4_mixPlace_76 ?_
  refine A.iconst (v := nI 1) eX4_mixPlace_77 (by decide) ?_
  refine A.il3 eX4_mixPlace_78 ?_
  refine A.iconst (v := -1) eX4_mixPlace_79 (by decide) ?_
  refine A.cVi3 eX4_mixPlace_80 oX4_row kX4_339 ko0 (aX4_row kz4a (fun τ5 kz5a kz5b => ?_))
  refine A.i2l eX4_mixPlace_83 rfl ?_
  refine A.cSl2 eX4_mixPlace_84 oX4_mix kX4_282 (sX4_mix ?_)
  refine A.ls4 eX4_mixPlace_87 ?_
  refine A.ll4 eX4_mixPlace_89 ?_
  refine A.al0 eX4_mixPlace_91 ?_
  refine A.iconst (v := nI 1) eX4_mixPlace_92 (by decide) ?_
  refine A.il3 eX4_mixPlace_93 ?_
  refine A.iconst (v := nI 0) eX4_mixPlace_94 (by decide) ?_
  refine A.cVi3 eX4_mixPlace_95 oX4_row kX4_339 ko0 (aX4_row kz5a (fun τ6 kz6a kz6b => ?_))
  refine A.i2l eX4_mixPlace_98 rfl ?_
  refine A.cSl2 eX4_mixPlace_99 oX4_mix kX4_282 (sX4_mix ?_)
  refine A.ls4 eX4_mixPlace_102 ?_
  refine A.ll4 eX4_mixPlace_104 ?_
  refine A.al0 eX4_mixPlace_106 ?_
  refine A.iconst (v := nI 5) eX4_mixPlace_107 (by decide) ?_
  refine A.il3 eX4_mixPlace_108 ?_
  refine A.iconst (v := nI 2) eX4_mixPlace_109 (by decide) ?_
  refine A.iconst (v := nI 0) eX4_mixPlace_110 (by decide) ?_
  refine A.cVl4 eX4_mixPlace_111 oX4_news kX4_342 ko0 (aX4_news kz6a (fun τ7 kz7a kz7b => ?_))
  refine A.cSl2 eX4_mixPlace_114 oX4_mix kX4_282 (sX4_mix ?_)
  refine A.ls4 eX4_mixPlace_117 ?_
  refine A.ll4 eX4_mixPlace_119 ?_
  refine A.al0 eX4_mixPlace_121 ?_
  refine A.iconst (v := nI 5) eX4_mixPlace_122 (by decide) ?_
  refine A.il3 eX4_mixPlace_123 ?_
  refine A.iconst (v := nI 2) eX4_mixPlace_124 (by decide) ?_
  refine A.iconst (v := nI 1) eX4_mixPlace_125 (by decide) ?_
  refine A.cVl4 eX4_mixPlace_126 oX4_news kX4_342 ko0 (aX4_news kz7a (fun τ8 kz8a kz8b => ?_))
  refine A.cSl2 eX4_mixPlace_129 oX4_mix kX4_282 (sX4_mix ?_)
  refine A.ls4 eX4_mixPlace_132 ?_
  refine A.ll4 eX4_mixPlace_134 ?_
  refine A.al0 eX4_mixPlace_136 ?_
  refine A.iconst (v := nI 5) eX4_mixPlace_137 (by decide) ?_
  refine A.il3 eX4_mixPlace_138 ?_
  refine A.iconst (v := nI 0) eX4_mixPlace_139 (by decide) ?_
  refine A.cVi3 eX4_mixPlace_140 oX4_roof kX4_346 ko0 (aX4_roof kz8a (fun τ9 kz9a kz9b => ?_))
  refine A.i2l eX4_mixPlace_143 rfl ?_
  refine A.cSl2 eX4_mixPlace_144 oX4_mix kX4_282 (sX4_mix ?_)
  refine B.lret eX4_mixPlace_147 ?_
  exact hQ τ9 kz9a (((((((((((Fi.rf 0 41 σ).tr kz0b).tr kz1b).tr kz2b).tr kz3b).tr kz4b).tr kz5b).tr kz6b).tr kz7b).tr kz8b).tr kz9b)
set_option maxRecDepth 100000 in
set_option maxHeartbeats 4000000 in
theorem sX4_digest {G : GW} {σ : St} {K : Int64 → St → Prop} {x : XS} (hC : CI x σ) (hQ : ∀ τ : St, CI x τ → Fi 0 41 σ τ → K (Rdigest x) τ) : Cl G (r0 6 142) mX4_digest [rf G 0] σ K := by
  refine Cl.of [some (rf G 0), none, none, none] ?_
  have n8 := hC.np8
  have q6 := hC.nq6
  refine A.ldc2 eX4_digest_0 nX4_277 ?_
  refine A.ls1 eX4_digest_3 ?_
  refine A.iconst (v := nI 0) eX4_digest_4 (by decide) ?_
  refine A.is3 eX4_digest_5 ?_
  have lpa : ∀ (fu i : Nat) (ξ : St), 8 - i < fu → i ≤ 8 → CI x ξ → Fi 0 41 σ ξ → B G (r0 6 142) mX4_digest 6 [some (rf G 0), some (.long (fld (fun k a => mx a (Rcount x (nI k)).toInt64) 17 i)), none, some (.int (nI i))] [] (ξ) (Pl K) := by
    intro fu
    induction fu with
    | zero => intro i ξ h1 h2; omega
    | succ fu iha =>
      intro i ξ h1 h2 e1 e2
      refine A.il3 eX4_digest_6 ?_
      refine A.bipush (v := nI 7) eX4_digest_7 (by decide) ?_
      refine A.icmp_gtN eX4_digest_9 (fun c1 => ?_) (fun c1 => ?_)
      · have e : i = 8 := by omega
        subst e
        refine A.ll1 eX4_digest_29 ?_
        refine A.al0 eX4_digest_30 ?_
        refine A.iconst (v := nI 0) eX4_digest_31 (by decide) ?_
        refine A.cVi1 eX4_digest_32 oX4_fault kX4_286 ko0 (aX4_fault e1 (fun τ0 kz0a kz0b => ?_))
        refine A.i2l eX4_digest_35 rfl ?_
        refine A.cSl2 eX4_digest_36 oX4_mix kX4_282 (sX4_mix ?_)
        refine A.ls1 eX4_digest_39 ?_
        refine A.ll1 eX4_digest_40 ?_
        refine A.al0 eX4_digest_41 ?_
        refine A.iconst (v := nI 1) eX4_digest_42 (by decide) ?_
        refine A.cVi1 eX4_digest_43 oX4_fault kX4_286 ko0 (aX4_fault kz0a (fun τ1 kz1a kz1b => ?_))
        refine A.i2l eX4_digest_46 rfl ?_
        refine A.cSl2 eX4_digest_47 oX4_mix kX4_282 (sX4_mix ?_)
        refine A.ls1 eX4_digest_50 ?_
        refine A.iconst (v := nI 0) eX4_digest_51 (by decide) ?_
        refine A.is3 eX4_digest_52 ?_
        have lpb : ∀ (fu j : Nat) (ξ : St), 4 - j < fu → j ≤ 4 → CI x ξ → Fi 0 41 σ ξ → B G (r0 6 142) mX4_digest 53 [some (rf G 0), some (.long (fld (fun k a => mH x a (dhN k)) (mx (mx (fld (fun k a => mx a (Rcount x (nI k)).toInt64) 17 8) (Rfault x (nI 0)).toInt64) (Rfault x (nI 1)).toInt64) j)), none, some (.int (nI j))] [] (ξ) (Pl K) := by
          intro fu
          induction fu with
          | zero => intro j ξ h1 h2; omega
          | succ fu ihb =>
            intro j ξ h1 h2 e1 e2
            refine A.il3 eX4_digest_53 ?_
            refine A.gets eX4_digest_54 fst_X4_289 ?_
            refine A.ulen eX4_digest_57 ?_
            refine A.icmp_geN eX4_digest_58 (fun c2 => ?_) (fun c2 => ?_)
            · refine A.iconst (v := nI 0) eX4_digest_78 (by decide) ?_
              refine A.is3 eX4_digest_79 ?_
              have lpc : ∀ (fu k : Nat) (ξ : St), xq x - k < fu → k ≤ xq x → CI x ξ → Fi 0 41 σ ξ → B G (r0 6 142) mX4_digest 80 [some (rf G 0), some (.long (fld (fun k a => mP x a k) (fld (fun k a => mH x a (dhN k)) (mx (mx (fld (fun k a => mx a (Rcount x (nI k)).toInt64) 17 8) (Rfault x (nI 0)).toInt64) (Rfault x (nI 1)).toInt64) 4) k)), none, some (.int (nI k))] [] (ξ) (Pl K) := by
                intro fu
                induction fu with
                | zero => intro k ξ h1 h2; omega
                | succ fu ihc =>
                  intro k ξ h1 h2 e1 e2
                  refine A.il3 eX4_digest_80 ?_
                  refine A.al0 eX4_digest_81 ?_
                  refine A.getR eX4_digest_82 fX4_18 ko0 kr0_1 ?_
                  refine A.getI eX4_digest_85 fX4_167 ko5 ?_
                  refine A.top e1.nq ?_
                  refine A.icmp_geN eX4_digest_88 (fun c3 => ?_) (fun c3 => ?_)
                  · refine A.iconst (v := nI 0) eX4_digest_104 (by decide) ?_
                    refine A.is3 eX4_digest_105 ?_
                    have lpd : ∀ (fu m : Nat) (ξ : St), xp x - m < fu → m ≤ xp x → CI x ξ → Fi 0 41 σ ξ → B G (r0 6 142) mX4_digest 106 [some (rf G 0), some (.long (fld (fun k a => mx a (Rmay x (nI k)).toInt64) (fld (fun k a => mP x a k) (fld (fun k a => mH x a (dhN k)) (mx (mx (fld (fun k a => mx a (Rcount x (nI k)).toInt64) 17 8) (Rfault x (nI 0)).toInt64) (Rfault x (nI 1)).toInt64) 4) (xq x)) m)), none, some (.int (nI m))] [] (ξ) (Pl K) := by
                      intro fu
                      induction fu with
                      | zero => intro m ξ h1 h2; omega
                      | succ fu ihd =>
                        intro m ξ h1 h2 e1 e2
                        refine A.il3 eX4_digest_106 ?_
                        refine A.al0 eX4_digest_107 ?_
                        refine A.getR eX4_digest_108 fX4_14 ko0 kr0_0 ?_
                        refine A.getI eX4_digest_111 fX4_167 ko1 ?_
                        refine A.top e1.np ?_
                        refine A.icmp_geN eX4_digest_114 (fun c4 => ?_) (fun c4 => ?_)
                        · have e : m = xp x := by omega
                          subst e
                          refine A.ll1 eX4_digest_134 ?_
                          refine A.al0 eX4_digest_135 ?_
                          refine A.iconst (v := nI 0) eX4_digest_136 (by decide) ?_
                          refine A.cVi1 eX4_digest_137 oX4_lightning kX4_302 ko0 (aX4_lightning e1 (fun τ0 kz0a kz0b => ?_))
                          refine A.i2l eX4_digest_140 rfl ?_
                          refine A.cSl2 eX4_digest_141 oX4_mix kX4_282 (sX4_mix ?_)
                          refine A.ls1 eX4_digest_144 ?_
                          refine A.ll1 eX4_digest_145 ?_
                          refine A.al0 eX4_digest_146 ?_
                          refine A.iconst (v := nI 1) eX4_digest_147 (by decide) ?_
                          refine A.cVi1 eX4_digest_148 oX4_lightning kX4_302 ko0 (aX4_lightning kz0a (fun τ1 kz1a kz1b => ?_))
                          refine A.i2l eX4_digest_151 rfl ?_
                          refine A.cSl2 eX4_digest_152 oX4_mix kX4_282 (sX4_mix ?_)
                          refine A.ls1 eX4_digest_155 ?_
                          refine A.ll1 eX4_digest_156 ?_
                          refine A.al0 eX4_digest_157 ?_
                          refine A.cVi0 eX4_digest_158 oX4_settles kX4_305 ko0 (sX4_settles kz1a (fun τ2 kz2a kz2b => ?_))
                          refine A.i2l eX4_digest_161 rfl ?_
                          refine A.cSl2 eX4_digest_162 oX4_mix kX4_282 (sX4_mix ?_)
                          refine A.ls1 eX4_digest_165 ?_
                          refine A.ll1 eX4_digest_166 ?_
                          refine A.al0 eX4_digest_167 ?_
                          refine A.cVi0 eX4_digest_168 oX4_hid kX4_308 ko0 (sX4_hid kz2a (fun τ3 kz3a kz3b => ?_))
                          refine A.i2l eX4_digest_171 rfl ?_
                          refine A.cSl2 eX4_digest_172 oX4_mix kX4_282 (sX4_mix ?_)
                          refine A.ls1 eX4_digest_175 ?_
                          refine A.ll1 eX4_digest_176 ?_
                          refine A.al0 eX4_digest_177 ?_
                          refine A.bipush (v := nI 7) eX4_digest_178 (by decide) ?_
                          refine A.iconst (v := -1) eX4_digest_180 (by decide) ?_
                          refine A.cVi2 eX4_digest_181 oX4_day kX4_311 ko0 (aX4_day kz3a (fun τ4 kz4a kz4b => ?_))
                          refine A.i2l eX4_digest_184 rfl ?_
                          refine A.cSl2 eX4_digest_185 oX4_mix kX4_282 (sX4_mix ?_)
                          refine A.ls1 eX4_digest_188 ?_
                          refine A.ll1 eX4_digest_189 ?_
                          refine A.al0 eX4_digest_190 ?_
                          refine A.bipush (v := nI 7) eX4_digest_191 (by decide) ?_
                          refine A.iconst (v := nI 0) eX4_digest_193 (by decide) ?_
                          refine A.cVi2 eX4_digest_194 oX4_day kX4_311 ko0 (aX4_day kz4a (fun τ5 kz5a kz5b => ?_))
                          refine A.i2l eX4_digest_197 rfl ?_
                          refine A.cSl2 eX4_digest_198 oX4_mix kX4_282 (sX4_mix ?_)
                          refine B.lret eX4_digest_201 ?_
                          exact hQ τ5 kz5a ((((((e2.tr kz0b).tr kz1b).tr kz2b).tr kz3b).tr kz4b).tr kz5b)
                        · refine A.ll1 eX4_digest_117 ?_
                          refine A.al0 eX4_digest_118 ?_
                          refine A.il3 eX4_digest_119 ?_
                          refine A.cVi1 eX4_digest_120 oX4_may kX4_299 ko0 (aX4_may e1 (fun τ0 kz0a kz0b => ?_))
                          refine A.i2l eX4_digest_123 rfl ?_
                          refine A.cSl2 eX4_digest_124 oX4_mix kX4_282 (sX4_mix ?_)
                          refine A.ls1 eX4_digest_127 ?_
                          refine A.inc3N eX4_digest_128 ?_
                          refine A.goto eX4_digest_131 ?_
                          exact ihd (m + 1) τ0 (by omega) (by omega) kz0a (e2.tr kz0b)
                    have e : k = xq x := by omega
                    subst e
                    exact lpd (xp x + 1) 0 ξ (by omega) (by omega) e1 e2
                  · refine A.al0 eX4_digest_91 ?_
                    refine A.ll1 eX4_digest_92 ?_
                    refine A.il3 eX4_digest_93 ?_
                    refine A.cVl2 eX4_digest_94 oX4_mixPlace kX4_296 ko0 (sX4_mixPlace e1 (fun τ kz0a kz0b => ?_))
                    refine A.ls1 eX4_digest_97 ?_
                    refine A.inc3N eX4_digest_98 ?_
                    refine A.goto eX4_digest_101 ?_
                    exact ihc (k + 1) τ (by omega) (by omega) kz0a (e2.tr kz0b)
              have e : j = 4 := by omega
              subst e
              exact lpc (xq x + 1) 0 ξ (by omega) (by omega) e1 e2
            · refine A.al0 eX4_digest_61 ?_
              refine A.ll1 eX4_digest_62 ?_
              refine A.gets eX4_digest_63 fst_X4_289 ?_
              refine A.il3 eX4_digest_66 ?_
              refine A.uld eX4_digest_67 (by omega) ?_
              refine A.cVl2 eX4_digest_68 oX4_mixHour kX4_292 ko0 (sX4_mixHour e1 (fun τ kz0a kz0b => ?_))
              refine A.ls1 eX4_digest_71 ?_
              refine A.inc3N eX4_digest_72 ?_
              refine A.goto eX4_digest_75 ?_
              exact ihb (j + 1) τ (by omega) (by omega) kz0a (e2.tr kz0b)
        exact lpb 5 0 τ1 (by omega) (by omega) kz1a ((e2.tr kz0b).tr kz1b)
      · refine A.ll1 eX4_digest_12 ?_
        refine A.al0 eX4_digest_13 ?_
        refine A.il3 eX4_digest_14 ?_
        refine A.cVi1 eX4_digest_15 oX4_count kX4_279 ko0 (aX4_count e1 (fun τ0 kz0a kz0b => ?_))
        refine A.i2l eX4_digest_18 rfl ?_
        refine A.cSl2 eX4_digest_19 oX4_mix kX4_282 (sX4_mix ?_)
        refine A.ls1 eX4_digest_22 ?_
        refine A.inc3N eX4_digest_23 ?_
        refine A.goto eX4_digest_26 ?_
        exact iha (i + 1) τ0 (by omega) (by omega) kz0a (e2.tr kz0b)
  exact A.eqw (by simp [wkL, fld]) rfl rfl (lpa 9 0 σ (by omega) (by omega) hC (Fi.rf _ _ _))
