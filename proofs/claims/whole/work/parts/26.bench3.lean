/-! agrees; a judge's bits -/
def agreeP (n : Nat) (K : Nat → Nat) (nj : Nat) (Js : Nat → JD) (old new kg : Nat) : Bool := decide (nj = 0) || decide (nj < 2 * cnt (fun j => letsJ n K (Js j) old new kg) nj)
theorem t_agrees (l : Launch) (G : GX) (ad : Nat → Nat) (ws : List CE) (n nj : Nat) (K : Nat → Nat) (Js : Nat → JD) (hL : LooksAt ws n K) (hM : MarksAt ws n nj Js) (hB : BitsAt ws n nj Js) (old new kg : Nat) (ho : old < 2147483648) (hw : new < 2147483648) (hk : kg < 2147483648) : Ct l G yX1_agrees cX1_agrees 4 (some .boolean) 6 0 0 ad ws [.ref 4, .int (nI old), .int (nI new), .int (nI kg)] (pI ad (fun r ws2 => r = bI (agreeP n K nj Js old new kg) ∧ ws2 = ws)) := by
  refine Ct.of [some (.ref 4), some (.int (nI old)), some (.int (nI new)), some (.int (nI kg))] (by decide +kernel) (Nat.le_of_ble_eq_true rfl) rfl ?_
  intro p e s m args below meth c A X
  have hM0 := hM
  obtain ⟨h1, h2, h3, fm, h4, h5⟩ := hM
  refine V_aload_n0 X dX1_agrees_0 ?_
  refine V_getf X dX1_agrees_1 fX1_24 (by assumption) (by rfl) ?_
  refine V_if_eq X 26 dX1_agrees_4 (by decide) (fun h => ?_) (fun h => ?_)
  · have h9 : nj = 0 := (nI_eq (a := nj) (b := 0) (by omega) (by omega)).mp h
    refine V_iconstE X (nI 1) dX1_agrees_26 (by decide +kernel) ?_
    refine V_goto X 31 dX1_agrees_27 (by decide) ?_
    exact V_zret X dX1_agrees_31 rfl ⟨by simp [bI, agreeP, h9], rfl⟩
  · have h9 : ¬ nj = 0 := fun q => h (by rw [q]; rfl)
    refine V_iconstE X (nI 2) dX1_agrees_7 (by decide +kernel) ?_
    refine V_aload_n0 X dX1_agrees_8 ?_
    refine V_iload_n1 X dX1_agrees_9 ?_
    refine V_iload_n2 X dX1_agrees_10 ?_
    refine V_iload_n3 X dX1_agrees_11 ?_
    refine V_cV3I X dX1_agrees_12 kX1_82 (t_willing l G ad ws n nj K Js hL hM0 hB old new kg ho hw hk) (by assumption) (by rfl) (Nat.le_of_ble_eq_true rfl) ⟨⟨Nat.le_of_ble_eq_true rfl, Nat.le_of_ble_eq_true rfl⟩, Nat.le_of_ble_eq_true rfl, Nat.le_of_ble_eq_true rfl⟩ (fun r ws2 hc => ?_)
    obtain ⟨rfl, hw9⟩ := hc
    obtain rfl := hw9.symm
    refine V_cS1I X dX1_agrees_15 kX1_86 (t_bc l G ad ws _) (Nat.le_of_ble_eq_true rfl) ⟨⟨Nat.le_of_ble_eq_true rfl, Nat.le_of_ble_eq_true rfl⟩, Nat.le_of_ble_eq_true rfl, Nat.le_of_ble_eq_true rfl⟩ (fun r ws2 hc => ?_)
    obtain ⟨rfl, hw9⟩ := hc
    obtain rfl := hw9.symm
    rw [bc_bits _ h2]
    have hcl := cnt_le (fun j => letsJ n K (Js j) old new kg) nj
    refine V_imul X dX1_agrees_18 ?_
    rw [pk_mul]
    refine V_aload_n0 X dX1_agrees_19 ?_
    refine V_getf X dX1_agrees_20 fX1_24 (by assumption) (by rfl) ?_
    refine V_icmp_le X 30 dX1_agrees_23 (by decide) (fun h6 => ?_) (fun h6 => ?_)
    · have h8 : ¬ nj < 2 * cnt (fun j => letsJ n K (Js j) old new kg) nj := by have := (nI_leI (by omega) (by omega)).mp h6; omega
      refine V_iconstE X (nI 0) dX1_agrees_30 (by decide +kernel) ?_
      exact V_zret X dX1_agrees_31 rfl ⟨by simp [bI, agreeP, h9, h8], rfl⟩
    · have h8 : nj < 2 * cnt (fun j => letsJ n K (Js j) old new kg) nj := by
        rcases Nat.lt_or_ge nj (2 * cnt (fun j => letsJ n K (Js j) old new kg) nj) with q | q
        · exact q
        · exact absurd ((nI_leI (by omega) (by omega)).mpr q) h6
      refine V_iconstE X (nI 1) dX1_agrees_26 (by decide +kernel) ?_
      refine V_goto X 31 dX1_agrees_27 (by decide) ?_
      exact V_zret X dX1_agrees_31 rfl ⟨by simp [bI, agreeP, h8], rfl⟩
theorem MarksAt.fr {ks : List Nat} {ws ws2 : List CE} {n nj : Nat} {Js : Nat → JD} (h : MarksAt ws n nj Js) (hf : fr ks ws ws2) (h4 : 4 ∉ ks) (h5 : 5 ∉ ks) : MarksAt ws2 n nj Js := by
  obtain ⟨a, b, c, fm, d, e⟩ := h
  exact ⟨hf.get h4 a, b, c, fm, hf.get h5 d, e⟩
theorem BitsAt.fr {ks : List Nat} {ws ws2 : List CE} {n nj : Nat} {Js : Nat → JD} (h : BitsAt ws n nj Js) (hf : fr ks ws ws2) (h6 : 6 ∉ ks) (h7 : 7 ∉ ks) (h8 : 8 ∉ ks) : BitsAt ws2 n nj Js := by
  obtain ⟨fa, fl, fb, a, b, c, d⟩ := h
  exact ⟨fa, fl, fb, hf.get h6 a, hf.get h7 b, hf.get h8 c, d⟩
def PA (Js : Nat → JD) (i j : Nat) : Bool := decide (i % 10 ≤ (Js j).1 (i / 10))
theorem PA_eq (Js : Nat → JD) {f g j : Nat} (hg : g < 10) : PA Js (f * 10 + g) j = decide (g ≤ (Js j).1 f) := by
  unfold PA
  rw [show (f * 10 + g) % 10 = g by omega, show (f * 10 + g) / 10 = f by omega]
def newer (t nj i : Nat) : Nat := if i < t then nj + 1 else nj
theorem newer_lt {t nj i : Nat} (h : i < t) : newer t nj i = nj + 1 := if_pos h
theorem newer_ge {t nj i : Nat} (h : t ≤ i) : newer t nj i = nj := if_neg (by omega)
theorem bits_no {P : Nat → Bool} {n : Nat} (h : P n = false) : bits P (n + 1) = bits P n := by rw [bits, h]; simp
theorem bits_yes {P : Nat → Bool} {n : Nat} (h : P n = true) : bits P (n + 1) = bits P n + 2 ^ n := by rw [bits, h]; simp
/-- one more place of a row of bits is settled -/
theorem bits_upd {N t nj : Nat} {P : Nat → Nat → Bool} {f f2 : Nat → Int32} (h : ∀ i, i < N → f i = nI (bits (P i) (newer t nj i))) (h2 : ∀ i, i ≠ t → f2 i = f i) (h3 : t < N → f2 t = nI (bits (P t) (nj + 1))) : ∀ i, i < N → f2 i = nI (bits (P i) (newer (t + 1) nj i)) := by
  intro i hi
  by_cases e : i = t
  · subst e
    rw [h3 hi, newer_lt (by omega)]
  · rw [h2 i e, h i hi]
    unfold newer
    by_cases q : i < t
    · rw [if_pos q, if_pos (by omega)]
    · rw [if_neg q, if_neg (by omega)]
theorem nI_orb (P : Nat → Bool) (n : Nat) : nI (bits P n) ||| nI (2 ^ n) = nI (bits P n + 2 ^ n) := by rw [nI_or, bits_or1]
set_option maxHeartbeats 1000000 in
theorem t_noteBits (l : Launch) (G : GX) (ad : Nat → Nat) (ws : List CE) (n nj : Nat) (K : Nat → Nat) (Js : Nat → JD) (hL : LooksAt ws n K) (hM : MarksAt ws n (nj + 1) Js) (hB : BitsAt ws n nj Js) : Ct l G yX1_noteBits cX1_noteBits 5 none 5 0 0 ad ws [.ref 4, .int (nI nj)] (pV ad (fun ws2 => BitsAt ws2 n (nj + 1) Js ∧ fr [6, 7, 8] ws ws2)) := by
  refine Ct.of [some (.ref 4), some (.int (nI nj)), none, none, none] (by decide +kernel) (Nat.le_of_ble_eq_true rfl) rfl ?_
  intro p e s m args below meth c A X
  have hM0 := hM
  have hL0 := hL
  obtain ⟨hn, hl1, xs, hl2, hx4, hF⟩ := hL
  obtain ⟨h1, h2, h3, fm, h4, h5⟩ := hM
  obtain ⟨fa, fl, fb, g1, g2, g3, g4, g5, g6, g7⟩ := hB
  refine V_iconstE X (nI 1) dX1_noteBits_0 (by decide +kernel) ?_
  refine V_iload_n1 X dX1_noteBits_1 ?_
  refine V_ishl X dX1_noteBits_2 ?_
  rw [shl1 nj (by omega)]
  refine V_istore_n2 X dX1_noteBits_3 (Nat.le_of_ble_eq_true rfl) rfl ?_
  refine V_iconstE X (nI 0) dX1_noteBits_4 (by decide +kernel) ?_
  refine V_istore_n3 X dX1_noteBits_5 (Nat.le_of_ble_eq_true rfl) rfl ?_
  refine V_loop (fun k wk lv2 => ∃ (f : Nat) (w4 : Option Value) (fa2 fb2 : Nat → Int32), f + k = n ∧ lv2 = [some (.ref 4), some (.int (nI nj)), some (.int (nI (2 ^ nj))), some (.int (nI f)), w4] ∧ fr [6, 7, 8] ws wk ∧ wk[6]? = some (iA 40 fa2) ∧ wk[7]? = some (iA 37 fl) ∧ wk[8]? = some (iA 4 fb2) ∧ (∀ i, i < n * 10 → fa2 i = nI (bits (PA Js i) (newer (f * 10) nj i))) ∧ (∀ i, i < n → fb2 i = nI (bits (fun j => bndJ (Js j) i) (newer f nj i)))) n ⟨0, none, fa, fb, by omega, rfl, fr.rfl, g1, g2, g3, ?_, ?_⟩ ?_
  · intro i hi
    rw [newer_ge (by omega)]
    have := g4 (i / 10) (by omega) (i % 10) (by omega)
    rw [show i / 10 * 10 + i % 10 = i by omega] at this
    exact this
  · intro i hi
    rw [newer_ge (by omega)]
    exact g6 i hi
  rintro k wk _ ⟨f, w4, fa2, fb2, hf, rfl, hfr, e6, e7, e8, ha, hb⟩ ih
  have q4 := hfr.get (by decide) h1
  have hLk := hL0.fr hfr (by decide)
  have q1 := hLk.2.1
  have hMk := hM0.fr hfr (by decide) (by decide)
  refine V_iload_n3 X dX1_noteBits_6 ?_
  refine V_aload_n0 X dX1_noteBits_7 ?_
  refine V_getf X dX1_noteBits_8 fX1_28 (by assumption) (by rfl) ?_
  refine V_cV0I X dX1_noteBits_11 kX1_44 (t_Lsize l G ad wk n K hLk) (by assumption) (by rfl) (Nat.le_of_ble_eq_true rfl) ⟨⟨Nat.le_of_ble_eq_true rfl, Nat.le_of_ble_eq_true rfl⟩, Nat.le_of_ble_eq_true rfl, Nat.le_of_ble_eq_true rfl⟩ (fun r ws2 hc => ?_)
  obtain ⟨rfl, hw9⟩ := hc
  obtain rfl := hw9.symm
  refine V_icmp_ge X 90 dX1_noteBits_14 (by decide) (fun h => ?_) (fun h => ?_)
  · have e9 : f = n := by have := (nI_leI (by omega) (by omega)).mp h; omega
    subst e9
    refine V_iconstE X (nI 0) dX1_noteBits_90 (by decide +kernel) ?_
    refine V_istore_n3 X dX1_noteBits_91 (Nat.le_of_ble_eq_true rfl) rfl ?_
    refine V_loop (fun k wk lv2 => ∃ (g : Nat) (fl2 : Nat → Int32), g ≤ farJ (Js nj) + 1 ∧ g + k = farJ (Js nj) + 1 ∧ lv2 = [some (.ref 4), some (.int (nI nj)), some (.int (nI (2 ^ nj))), some (.int (nI g)), w4] ∧ fr [6, 7, 8] ws wk ∧ wk[6]? = some (iA 40 fa2) ∧ wk[7]? = some (iA 37 fl2) ∧ wk[8]? = some (iA 4 fb2) ∧ (∀ i, i < 37 → fl2 i = nI (bits (fun j => decide (i ≤ farJ (Js j))) (newer g nj i)))) (farJ (Js nj) + 1) ⟨0, fl, by omega, by omega, rfl, hfr, e6, e7, e8, fun i hi => by rw [newer_ge (by omega)]; exact g5 i hi⟩ ?_
    rintro k2 wz _ ⟨g, fl2, hg0, hg, rfl, hfz, z6, z7, z8, hl⟩ ih2
    have q4 := hfz.get (by decide) h1
    have hMz := hM0.fr hfz (by decide) (by decide)
    have hfar := farJ_lt (h3 nj (by omega))
    refine V_iload_n3 X dX1_noteBits_92 ?_
    refine V_aload_n0 X dX1_noteBits_93 ?_
    refine V_iload_n1 X dX1_noteBits_94 ?_
    refine V_cV1I X dX1_noteBits_95 kX1_70 (t_farthest l G ad wz _ (nj + 1) Js hMz nj (by omega)) (by assumption) (by rfl) (Nat.le_of_ble_eq_true rfl) ⟨⟨Nat.le_of_ble_eq_true rfl, Nat.le_of_ble_eq_true rfl⟩, Nat.le_of_ble_eq_true rfl, Nat.le_of_ble_eq_true rfl⟩ (fun r ws2 hc => ?_)
    obtain ⟨rfl, hw9⟩ := hc
    obtain rfl := hw9.symm
    refine V_icmp_gt X 123 dX1_noteBits_98 (by decide) (fun h6 => ?_) (fun h6 => ?_)
    · have e9 : farJ (Js nj) < g := (nI_ltI (by omega) (by omega)).mp h6
      have e10 : g = farJ (Js nj) + 1 := by omega
      refine V_vret X dX1_noteBits_123 ⟨⟨fa2, fl2, fb2, z6, z7, z8, ?_, ?_, ?_, ?_⟩, hfz⟩
      · intro f2 hf2 g2 hg2
        rw [ha (f2 * 10 + g2) (by omega), newer_lt (by omega), bits_congr (fun j _ => PA_eq Js hg2)]
      · intro i hi
        rw [hl i hi]
        by_cases q : i < g
        · rw [newer_lt q]
        · rw [newer_ge (by omega), bits_no (decide_eq_false (by omega))]
      · intro f2 hf2
        rw [hb f2 hf2, newer_lt (by omega)]
      · intro q
        exact absurd q (by omega)
    · have e9 : g ≤ farJ (Js nj) := by
        rcases Nat.lt_or_ge (farJ (Js nj)) g with q | q
        · exact absurd ((nI_ltI (by omega) (by omega)).mpr q) h6
        · exact q
      refine V_iload_n3 X dX1_noteBits_101 ?_
      refine V_bipushE X (nI 36) dX1_noteBits_102 (by decide +kernel) ?_
      refine V_icmp_gt X 123 dX1_noteBits_104 (by decide) (fun h36 => ?_) (fun h36 => ?_)
      · exact absurd ((nI_ltI (a := 36) (by omega) (by omega)).mp h36) (by omega)
      refine V_aload_n0 X dX1_noteBits_107 ?_
      refine V_getf X dX1_noteBits_108 fX1_18 (by assumption) (by rfl) ?_
      refine V_iload_n3 X dX1_noteBits_111 ?_
      refine V_dup2 X dX1_noteBits_112 rfl rfl ?_
      refine V_iald X g dX1_noteBits_113 (by assumption) rfl (by omega) (by omega) ?_
      rw [hl g (by omega), newer_ge (Nat.le_refl g)]
      refine V_iload_n2 X dX1_noteBits_114 ?_
      refine V_ior X dX1_noteBits_115 ?_
      rw [nI_orb]
      refine V_iast X g dX1_noteBits_116 (by assumption) rfl (by omega) (by omega) ?_
      refine V_iinc_3 X dX1_noteBits_117 (Nat.le_of_ble_eq_true rfl) rfl (inc1 _) ?_
      refine V_goto X 92 dX1_noteBits_120 (by decide) ?_
      refine ih2 (k2 - 1) _ _ (by omega) ⟨g + 1, _, by omega, by omega, rfl, hfz.set (by decide), gne (by decide) z6, gset z7, gne (by decide) z8, ?_⟩
      exact bits_upd hl (fun i hi => pk_un hi) (fun _ => by rw [pk_us, bits_yes (decide_eq_true e9)])
  · have e9 : f < n := by rcases Nat.lt_or_ge f n with q | q; exact q; exact absurd ((nI_leI (by omega) (by omega)).mpr q) h
    refine V_iload_n3 X dX1_noteBits_17 ?_
    refine V_iconstE X (nI 4) dX1_noteBits_18 (by decide +kernel) ?_
    refine V_icmp_ge X 90 dX1_noteBits_19 (by decide) (fun h44 => ?_) (fun h44 => ?_)
    · exact absurd h44 (nI_ge (show f < 4 by omega) (by decide))
    refine V_iconstE X (nI 0) dX1_noteBits_22 (by decide +kernel) ?_
    refine V_istore_4 X dX1_noteBits_23 (Nat.le_of_ble_eq_true rfl) rfl ?_
    refine V_loop (fun k wk lv2 => ∃ (g : Nat) (fa2 : Nat → Int32), g ≤ 10 ∧ g + k = 10 ∧ lv2 = [some (.ref 4), some (.int (nI nj)), some (.int (nI (2 ^ nj))), some (.int (nI f)), some (.int (nI g))] ∧ fr [6, 7, 8] ws wk ∧ wk[6]? = some (iA 40 fa2) ∧ wk[7]? = some (iA 37 fl) ∧ wk[8]? = some (iA 4 fb2) ∧ (∀ i, i < n * 10 → fa2 i = nI (bits (PA Js i) (newer (f * 10 + g) nj i)))) 10 ⟨0, fa2, by omega, by omega, rfl, hfr, e6, e7, e8, ha⟩ ?_
    rintro k2 wz _ ⟨g, fa3, hg0, hg, rfl, hfz, z6, z7, z8, hl⟩ ih2
    have q4 := hfz.get (by decide) h1
    have hMz := hM0.fr hfz (by decide) (by decide)
    refine V_iload_4 X dX1_noteBits_25 ?_
    refine V_bipushE X (nI 10) dX1_noteBits_27 (by decide +kernel) ?_
    refine V_icmp_ge X 65 dX1_noteBits_29 (by decide) (fun h6 => ?_) (fun h6 => ?_)
    · have e10 : g = 10 := by have := (nI_leI (a := 10) (b := g) (by omega) (by omega)).mp h6; omega
      subst e10
      refine V_aload_n0 X dX1_noteBits_65 ?_
      refine V_iload_n1 X dX1_noteBits_66 ?_
      refine V_iload_n3 X dX1_noteBits_67 ?_
      refine V_cV2I X dX1_noteBits_68 kX1_66 (t_binds l G ad wz n (nj + 1) Js hMz hn nj f (by omega) e9) (by assumption) (by rfl) (Nat.le_of_ble_eq_true rfl) ⟨⟨Nat.le_of_ble_eq_true rfl, Nat.le_of_ble_eq_true rfl⟩, Nat.le_of_ble_eq_true rfl, Nat.le_of_ble_eq_true rfl⟩ (fun r ws2 hc => ?_)
      obtain ⟨rfl, hw9⟩ := hc
      obtain rfl := hw9.symm
      refine V_if_eq X 84 dX1_noteBits_71 (by decide) (fun h7 => ?_) (fun h7 => ?_)
      · have h8 : bndJ (Js nj) f = false := by
          cases hb2 : bndJ (Js nj) f with
          | false => rfl
          | true => rw [hb2] at h7; exact absurd h7 (by decide +kernel)
        refine V_iinc_3 X dX1_noteBits_84 (Nat.le_of_ble_eq_true rfl) rfl (inc1 _) ?_
        refine V_goto X 6 dX1_noteBits_87 (by decide) ?_
        refine ih (k - 1) _ _ (by omega) ⟨f + 1, _, fa3, fb2, by omega, rfl, hfz, z6, z7, z8, ?_, ?_⟩
        · rw [show (f + 1) * 10 = f * 10 + 10 by omega]; exact hl
        · exact bits_upd hb (fun _ _ => rfl) (fun _ => by rw [hb f e9, newer_ge (Nat.le_refl f), bits_no (P := fun j => bndJ (Js j) f) h8])
      · have h8 : bndJ (Js nj) f = true := by
          cases hb2 : bndJ (Js nj) f with
          | true => rfl
          | false => rw [hb2] at h7; exact absurd (show bI false = 0 by decide +kernel) h7
        refine V_aload_n0 X dX1_noteBits_74 ?_
        refine V_getf X dX1_noteBits_75 fX1_21 (by assumption) (by rfl) ?_
        refine V_iload_n3 X dX1_noteBits_78 ?_
        refine V_dup2 X dX1_noteBits_79 rfl rfl ?_
        refine V_iald X f dX1_noteBits_80 (by assumption) rfl (by omega) (by omega) ?_
        rw [hb f e9, newer_ge (Nat.le_refl f)]
        refine V_iload_n2 X dX1_noteBits_81 ?_
        refine V_ior X dX1_noteBits_82 ?_
        rw [nI_orb]
        refine V_iast X f dX1_noteBits_83 (by assumption) rfl (by omega) (by omega) ?_
        refine V_iinc_3 X dX1_noteBits_84 (Nat.le_of_ble_eq_true rfl) rfl (inc1 _) ?_
        refine V_goto X 6 dX1_noteBits_87 (by decide) ?_
        refine ih (k - 1) _ _ (by omega) ⟨f + 1, _, fa3, _, by omega, rfl, hfz.set (by decide), gne (by decide) z6, gne (by decide) z7, gset z8, ?_, ?_⟩
        · rw [show (f + 1) * 10 = f * 10 + 10 by omega]; exact hl
        · exact bits_upd hb (fun i hi => pk_un hi) (fun _ => by rw [pk_us, bits_yes (P := fun j => bndJ (Js j) f) h8])
    · have e10 : g < 10 := by
        rcases Nat.lt_or_ge g 10 with q | q
        · exact q
        · exact absurd ((nI_leI (a := 10) (b := g) (by omega) (by omega)).mpr q) h6
      refine V_aload_n0 X dX1_noteBits_32 ?_
      refine V_iload_n1 X dX1_noteBits_33 ?_
      refine V_iload_n3 X dX1_noteBits_34 ?_
      refine V_iload_4 X dX1_noteBits_35 ?_
      refine V_cV3I X dX1_noteBits_37 kX1_62 (t_allows l G ad wz n (nj + 1) Js hMz hn nj f g (by omega) e9 (by omega)) (by assumption) (by rfl) (Nat.le_of_ble_eq_true rfl) ⟨⟨Nat.le_of_ble_eq_true rfl, Nat.le_of_ble_eq_true rfl⟩, Nat.le_of_ble_eq_true rfl, Nat.le_of_ble_eq_true rfl⟩ (fun r ws2 hc => ?_)
      obtain ⟨rfl, hw9⟩ := hc
      obtain rfl := hw9.symm
      refine V_if_eq X 59 dX1_noteBits_40 (by decide) (fun h7 => ?_) (fun h7 => ?_)
      · have h8 : ¬ g ≤ (Js nj).1 f := fun q => by rw [decide_eq_true q] at h7; exact absurd h7 (by decide +kernel)
        refine V_iinc_4 X dX1_noteBits_59 (Nat.le_of_ble_eq_true rfl) rfl (inc1 _) ?_
        refine V_goto X 25 dX1_noteBits_62 (by decide) ?_
        refine ih2 (k2 - 1) _ _ (by omega) ⟨g + 1, fa3, by omega, by omega, rfl, hfz, z6, z7, z8, ?_⟩
        exact bits_upd (t := f * 10 + g) hl (fun _ _ => rfl) (fun q => by rw [hl _ q, newer_ge (Nat.le_refl _), bits_no (by rw [PA_eq Js e10]; exact decide_eq_false h8)])
      · have h8 : g ≤ (Js nj).1 f := by
          rcases Nat.lt_or_ge ((Js nj).1 f) g with q | q
          · rw [decide_eq_false (by omega)] at h7; exact absurd (show bI false = 0 by decide +kernel) h7
          · exact q
        refine V_aload_n0 X dX1_noteBits_43 ?_
        refine V_getf X dX1_noteBits_44 fX1_15 (by assumption) (by rfl) ?_
        refine V_iload_n3 X dX1_noteBits_47 ?_
        refine V_bipushE X (nI 10) dX1_noteBits_48 (by decide +kernel) ?_
        refine V_imul X dX1_noteBits_50 ?_
        refine V_iload_4 X dX1_noteBits_51 ?_
        refine V_iadd X dX1_noteBits_53 ?_
        rw [pk_mul, nI_add]
        refine V_dup2 X dX1_noteBits_54 rfl rfl ?_
        refine V_iald X (f * 10 + g) dX1_noteBits_55 (by assumption) rfl (by omega) (by omega) ?_
        rw [hl _ (by omega), newer_ge (Nat.le_refl _)]
        refine V_iload_n2 X dX1_noteBits_56 ?_
        refine V_ior X dX1_noteBits_57 ?_
        rw [nI_orb]
        refine V_iast X (f * 10 + g) dX1_noteBits_58 (by assumption) rfl (by omega) (by omega) ?_
        refine V_iinc_4 X dX1_noteBits_59 (Nat.le_of_ble_eq_true rfl) rfl (inc1 _) ?_
        refine V_goto X 25 dX1_noteBits_62 (by decide) ?_
        refine ih2 (k2 - 1) _ _ (by omega) ⟨g + 1, _, by omega, by omega, rfl, hfz.set (by decide), gset z6, gne (by decide) z7, gne (by decide) z8, ?_⟩
        exact bits_upd (t := f * 10 + g) hl (fun i hi => pk_un hi) (fun _ => by rw [pk_us, bits_yes (by rw [PA_eq Js e10]; exact decide_eq_true h8)])
