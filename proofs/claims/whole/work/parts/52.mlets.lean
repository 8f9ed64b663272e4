/-! the reference: judges -/
def JRI (ws : List CE) (n nj : Nat) (Js : Nat → JD) : Prop := ∃ fj : Nat → Int32, ws[36]? = some (iA 30 fj) ∧ ∀ j, j < nj → ∀ w, w < 6 → fj (6 * j + w) = markI n (Js j) w
def MJ (ws : List CE) (n : Nat) (K : Nat → Nat) (kg nj : Nat) (Js : Nat → JD) : Prop := n ≤ 4 ∧ nj ≤ 5 ∧ (∀ f, f < 4 → K f < 5) ∧ (∀ j, j < nj → okJ n (Js j)) ∧ AI ws 30 4 4 K ∧ AI ws 31 4 4 (dg kg) ∧ JRI ws n nj Js
theorem JRI.fr {ks : List Nat} {ws ws2 : List CE} {n nj : Nat} {Js : Nat → JD} (h : JRI ws n nj Js) (hf : fr ks ws ws2) (hk : 36 ∉ ks) : JRI ws2 n nj Js := by
  obtain ⟨f, h1, h2⟩ := h
  exact ⟨f, hf.get hk h1, h2⟩
theorem MJ.fr {ks : List Nat} {ws ws2 : List CE} {n : Nat} {K : Nat → Nat} {kg nj : Nat} {Js : Nat → JD} (h : MJ ws n K kg nj Js) (hf : fr ks ws ws2) (h1 : 30 ∉ ks) (h2 : 31 ∉ ks) (h3 : 36 ∉ ks) : MJ ws2 n K kg nj Js := by
  obtain ⟨a, b, c, d, e, f, g⟩ := h
  exact ⟨a, b, c, d, e.fr hf h1, f.fr hf h2, g.fr hf h3⟩
theorem MJ_king {ks : List Nat} {ws ws2 : List CE} {n : Nat} {K : Nat → Nat} {kg kg2 nj : Nat} {Js : Nat → JD} (h : MJ ws n K kg nj Js) (hf : fr ks ws ws2) (h1 : 30 ∉ ks) (h2 : AI ws2 31 4 4 (dg kg2)) (h3 : 36 ∉ ks) : MJ ws2 n K kg2 nj Js := by
  obtain ⟨a, b, c, d, e, f, g⟩ := h
  exact ⟨a, b, c, d, e.fr hf h1, h2, g.fr hf h3⟩
theorem allOK_mono {K : Nat → Nat} {q : JD} {a b kg f : Nat} : ∀ {n : Nat}, f ≤ n → allOK K q a b kg f = false → allOK K q a b kg n = false
  | 0, h, e => by rw [show 0 = f by omega]; exact e
  | n + 1, h, e => by
    rcases Nat.lt_or_ge n f with h1 | h1
    · rw [show n + 1 = f by omega]; exact e
    · rw [allOK, allOK_mono h1 e]; rfl
set_option maxHeartbeats 1000000 in
theorem m_letsOne (l : Launch) (G : GX) (ad : Nat → Nat) (ws : List CE) {n mm np : Nat} {rm sa : Int32} {nj tr : Nat} {sd : Int32} {pn hn : Nat} {kl kp kh : Int32} {hs : Int64} (hO : ws[29]? = some (MO n mm np rm sa nj tr sd pn hn kl kp kh hs)) (K : Nat → Nat) (kg : Nat) (Js : Nat → JD) (hJ : MJ ws n K kg nj Js) (j a b : Nat) (hj : j < nj) (ha : a < 2147483648) (hb : b < 2147483648) : Ct l G yX12_letsOne cX12_letsOne 9 (some .boolean) 5 0 0 ad ws [.ref 29, .int (nI j), .int (nI a), .int (nI b)] (pI ad (fun r ws2 => r = bI (letsJ n K (Js j) a b kg) ∧ ws2 = ws)) := by
  refine Ct.of [some (.ref 29), some (.int (nI j)), some (.int (nI a)), some (.int (nI b)), none, none, none, none, none] (by decide +kernel) (Nat.le_of_ble_eq_true rfl) rfl ?_
  intro p e s m args below meth c A X
  obtain ⟨h4, h5, hk5, hok, hk, hg, fj, hj1, hj2⟩ := hJ
  have hk0 := hk
  obtain ⟨fg, hg1, hg2⟩ := hg
  have hgl := gapP_le n K a b
  obtain ⟨hd10, ht10⟩ := hok j hj
  refine V_bipushE X (nI 6) dX12_letsOne_0 (by decide +kernel) ?_
  refine V_iload_n1 X dX12_letsOne_2 ?_
  refine V_imul X dX12_letsOne_3 ?_
  rw [pk_mul]
  refine V_istore_4 X dX12_letsOne_4 (Nat.le_of_ble_eq_true rfl) rfl ?_
  refine V_aload_n0 X dX12_letsOne_6 ?_
  refine V_getf X dX12_letsOne_7 fX12_28 (by assumption) (by rfl) ?_
  refine V_iload_4 X dX12_letsOne_10 ?_
  refine V_iconstE X (nI 4) dX12_letsOne_12 (by decide +kernel) ?_
  refine V_iadd X dX12_letsOne_13 ?_
  refine V_iald X (6 * j + 4) dX12_letsOne_14 (by assumption) (nI_add _ _) (by omega) (by omega) ?_
  rw [hj2 j hj 4 (by decide)]
  have tail : ∀ d : Bool, d = decide (gapP n K a b ≤ farJ (Js j)) → V p l e (rmm 5 0 0) s m args below meth c 0 0 (MQ below (QQ G A (pI ad (fun r ws2 => r = bI (letsJ n K (Js j) a b kg) ∧ ws2 = ws))) args s 0 0 A) G A 9 ad ws 44 [some (.ref 29), some (.int (nI j)), some (.int (nI a)), some (.int (nI b)), some (.int (nI (6 * j))), none, none, none, none] [.int (bI d)] := by
    intro d hd
    refine V_istore_5 X dX12_letsOne_44 (Nat.le_of_ble_eq_true rfl) rfl ?_
    refine V_iconstE X (nI 0) dX12_letsOne_46 (by decide +kernel) ?_
    refine V_istore_6 X dX12_letsOne_47 (Nat.le_of_ble_eq_true rfl) rfl ?_
    refine V_loopP (fun k lv2 => ∃ f w7 w8, f + k = n ∧ lv2 = [some (.ref 29), some (.int (nI j)), some (.int (nI a)), some (.int (nI b)), some (.int (nI (6 * j))), some (.int (bI (allOK K (Js j) a b kg f && d))), some (.int (nI f)), w7, w8]) n ⟨0, none, none, by omega, rfl⟩ ?_
    rintro k _ ⟨f, w7, w8, hf, rfl⟩ ih
    refine V_iload_6 X dX12_letsOne_49 ?_
    refine V_aload_n0 X dX12_letsOne_51 ?_
    refine V_getf X dX12_letsOne_52 fX12_65 (by assumption) (by rfl) ?_
    refine V_icmp_ge X 147 dX12_letsOne_55 (by decide) (fun h => ?_) (fun h => ?_)
    · have e9 : f = n := by have := c_le h; omega
      subst e9
      refine V_iload_5 X dX12_letsOne_147 ?_
      exact V_zret X dX12_letsOne_149 (nb_bI _) ⟨by rw [letsJ, hd], rfl⟩
    · have e9 := c_nle h
      have hdf := hd10 f e9
      refine V_iload_5 X dX12_letsOne_58 ?_
      refine V_if_eq X 147 dX12_letsOne_60 (by decide) (fun h2 => ?_) (fun h2 => ?_)
      · have e8 := b_of0 h2
        refine V_iload_5 X dX12_letsOne_147 ?_
        refine V_zret X dX12_letsOne_149 (nb_bI _) ⟨?_, rfl⟩
        rw [e8, letsJ, ← hd]
        rw [Bool.and_eq_false_iff] at e8
        rcases e8 with q | q
        · rw [allOK_mono (Nat.le_of_lt e9) q]; rfl
        · rw [q, Bool.and_false]
      · have e8 := b_of1 h2
        rw [Bool.and_eq_true] at e8
        refine V_aload_n0 X dX12_letsOne_63 ?_
        refine V_getf X dX12_letsOne_64 fX12_28 (by assumption) (by rfl) ?_
        refine V_iload_4 X dX12_letsOne_67 ?_
        refine V_iload_6 X dX12_letsOne_69 ?_
        refine V_iadd X dX12_letsOne_71 ?_
        refine V_iald X (6 * j + f) dX12_letsOne_72 (by assumption) (nI_add _ _) (by omega) (by omega) ?_
        rw [hj2 j hj f (by omega), markI, if_pos (by omega), if_pos e9]
        have tail3 : ∀ (w7 w8 : Option Value) (g : Bool), g = stepOK K (Js j) a b kg f → V p l e (rmm 5 0 0) s m args below meth c 0 0 (MQ below (QQ G A (pI ad (fun r ws2 => r = bI (letsJ n K (Js j) a b kg) ∧ ws2 = ws))) args s 0 0 A) G A 9 ad ws 139 [some (.ref 29), some (.int (nI j)), some (.int (nI a)), some (.int (nI b)), some (.int (nI (6 * j))), some (.int (bI (allOK K (Js j) a b kg f && d))), some (.int (nI f)), w7, w8] [.int (bI g)] := by
          intro w7 w8 g hg9
          refine V_istore_5 X dX12_letsOne_139 (Nat.le_of_ble_eq_true rfl) rfl ?_
          refine V_iinc_6 X dX12_letsOne_141 (Nat.le_of_ble_eq_true rfl) rfl (inc1 _) ?_
          refine V_goto X 49 dX12_letsOne_144 (by decide) ?_
          refine ih (k - 1) _ (by omega) ⟨f + 1, w7, w8, by omega, ?_⟩
          rw [allOK, e8.1, e8.2, ← hg9, Bool.and_true, Bool.true_and]
        have tail2 : ∀ g : Bool, g = bndJ (Js j) f → V p l e (rmm 5 0 0) s m args below meth c 0 0 (MQ below (QQ G A (pI ad (fun r ws2 => r = bI (letsJ n K (Js j) a b kg) ∧ ws2 = ws))) args s 0 0 A) G A 9 ad ws 98 [some (.ref 29), some (.int (nI j)), some (.int (nI a)), some (.int (nI b)), some (.int (nI (6 * j))), some (.int (bI (allOK K (Js j) a b kg f && d))), some (.int (nI f)), some (.int (nI ((Js j).1 f))), w8] [.int (bI g)] := by
          intro g hg9
          refine V_istore_8 X dX12_letsOne_98 (Nat.le_of_ble_eq_true rfl) rfl ?_
          refine V_aload_n0 X dX12_letsOne_100 ?_
          refine V_iload_6 X dX12_letsOne_101 ?_
          refine V_iload_n2 X dX12_letsOne_103 ?_
          refine V_iload_n3 X dX12_letsOne_104 ?_
          have hgk := gapK_lt (k := K f) (dg_lt a f) (dg_lt b f)
          refine V_cV3I X dX12_letsOne_105 kX12_115 (m_apartIn l G ad ws hO K hk0 hk5 f a b (by omega) ha hb) (by assumption) (by rfl) (Nat.le_of_ble_eq_true rfl) ⟨⟨Nat.le_of_ble_eq_true rfl, Nat.le_of_ble_eq_true rfl⟩, Nat.le_of_ble_eq_true rfl, Nat.le_of_ble_eq_true rfl⟩ (fun r ws2 hc => ?_)
          obtain ⟨rfl, hw9⟩ := hc
          obtain rfl := hw9.symm
          refine V_iload_7 X dX12_letsOne_108 ?_
          refine V_icmp_gt X 138 dX12_letsOne_110 (by decide) (fun h3 => ?_) (fun h3 => ?_)
          · have e7 := c_lt h3
            refine V_iconstE X (nI 0) dX12_letsOne_138 (by decide +kernel) ?_
            exact tail3 _ _ false (by rw [stepOK, decide_eq_false (by omega)]; rfl)
          · have e7 := c_nlt h3
            refine V_iload_8 X dX12_letsOne_113 ?_
            refine V_if_eq X 134 dX12_letsOne_115 (by decide) (fun h6 => ?_) (fun h6 => ?_)
            · have e6 := b_of0 h6
              refine V_iconstE X (nI 1) dX12_letsOne_134 (by decide +kernel) ?_
              refine V_goto X 139 dX12_letsOne_135 (by decide) ?_
              exact tail3 _ _ true (by rw [stepOK, decide_eq_true e7, ← hg9, e6]; rfl)
            · have e6 := b_of1 h6
              have hdb := dg_lt b f
              have hdk := dg_lt kg f
              refine V_iload_n3 X dX12_letsOne_118 ?_
              refine V_iload_6 X dX12_letsOne_119 ?_
              refine V_cS2I X dX12_letsOne_121 kX12_94 (m_sizeOf l G ad ws b f hb (by omega)) (Nat.le_of_ble_eq_true rfl) ⟨⟨Nat.le_of_ble_eq_true rfl, Nat.le_of_ble_eq_true rfl⟩, Nat.le_of_ble_eq_true rfl, Nat.le_of_ble_eq_true rfl⟩ (fun r ws2 hc => ?_)
              obtain ⟨rfl, hw9⟩ := hc
              obtain rfl := hw9.symm
              refine V_aload_n0 X dX12_letsOne_124 ?_
              refine V_getf X dX12_letsOne_125 fX12_13 (by assumption) (by rfl) ?_
              refine V_iload_6 X dX12_letsOne_128 ?_
              refine V_iald X f dX12_letsOne_130 (by assumption) rfl (by omega) (by omega) ?_
              rw [hg2 f (by omega)]
              refine V_icmp_ne X 138 dX12_letsOne_131 (by decide) (fun h7 => ?_) (fun h7 => ?_)
              · have e5 := c_ne h7
                refine V_iconstE X (nI 0) dX12_letsOne_138 (by decide +kernel) ?_
                exact tail3 _ _ false (by rw [stepOK, decide_eq_true e7, ← hg9, e6, decide_eq_false e5]; rfl)
              · have e5 := c_eq h7
                refine V_iconstE X (nI 1) dX12_letsOne_134 (by decide +kernel) ?_
                refine V_goto X 139 dX12_letsOne_135 (by decide) ?_
                exact tail3 _ _ true (by rw [stepOK, decide_eq_true e7, decide_eq_true e5]; simp)
        refine V_istore_7 X dX12_letsOne_73 (Nat.le_of_ble_eq_true rfl) rfl ?_
        refine V_aload_n0 X dX12_letsOne_75 ?_
        refine V_getf X dX12_letsOne_76 fX12_28 (by assumption) (by rfl) ?_
        refine V_iload_4 X dX12_letsOne_79 ?_
        refine V_iconstE X (nI 5) dX12_letsOne_81 (by decide +kernel) ?_
        refine V_iadd X dX12_letsOne_82 ?_
        refine V_iald X (6 * j + 5) dX12_letsOne_83 (by assumption) (nI_add _ _) (by omega) (by omega) ?_
        refine V_iconstE X (nI 1) dX12_letsOne_84 (by decide +kernel) ?_
        rw [hj2 j hj 5 (by decide), markI, if_neg (by decide), if_neg (by decide)]
        refine V_icmp_ne X 97 dX12_letsOne_85 (by decide) (fun h3 => ?_) (fun h3 => ?_)
        · have e7 : (Js j).2.2 = false := by
            cases e : (Js j).2.2
            · rfl
            · exact absurd (by rw [e]; rfl) h3
          refine V_iconstE X (nI 0) dX12_letsOne_97 (by decide +kernel) ?_
          exact tail2 false (by rw [bndJ, e7]; rfl)
        · have e7 : (Js j).2.2 = true := by
            cases e : (Js j).2.2
            · rw [e] at h3; exact absurd h3 (by decide)
            · rfl
          refine V_iload_7 X dX12_letsOne_88 ?_
          refine V_if_ne X 97 dX12_letsOne_90 (by decide) (fun h6 => ?_) (fun h6 => ?_)
          · have e6 := c_ne0 h6
            refine V_iconstE X (nI 0) dX12_letsOne_97 (by decide +kernel) ?_
            exact tail2 false (by rw [bndJ, e7, decide_eq_false (by omega)]; rfl)
          · have e6 := c_eq0 h6
            refine V_iconstE X (nI 1) dX12_letsOne_93 (by decide +kernel) ?_
            refine V_goto X 98 dX12_letsOne_94 (by decide) ?_
            exact tail2 true (by rw [bndJ, e7, decide_eq_true e6]; rfl)
  rw [markI, if_neg (by decide), if_pos rfl]
  refine V_iconstE X (-1) dX12_letsOne_15 (by decide +kernel) ?_
  refine V_icmp_eq X 39 dX12_letsOne_16 (by decide) (fun h => ?_) (fun h => ?_)
  · have e9 : (Js j).2.1 = 0 := by
      rcases Nat.eq_zero_or_pos (Js j).2.1 with q | q
      · exact q
      · rw [if_neg (by omega)] at h; exact absurd h (nI_m1 (by omega))
    refine V_iconstE X (nI 1) dX12_letsOne_39 (by decide +kernel) ?_
    refine V_goto X 44 dX12_letsOne_40 (by decide) ?_
    exact tail true (by rw [farJ, if_pos e9, decide_eq_true (by omega)])
  · have e9 : ¬ (Js j).2.1 = 0 := fun q => h (by rw [if_pos q])
    refine V_aload_n0 X dX12_letsOne_19 ?_
    refine V_iload_n2 X dX12_letsOne_20 ?_
    refine V_iload_n3 X dX12_letsOne_21 ?_
    refine V_cV2I X dX12_letsOne_22 kX12_121 (m_apartOf l G ad ws hO h4 K hk0 hk5 a b ha hb) (by assumption) (by rfl) (Nat.le_of_ble_eq_true rfl) ⟨⟨Nat.le_of_ble_eq_true rfl, Nat.le_of_ble_eq_true rfl⟩, Nat.le_of_ble_eq_true rfl, Nat.le_of_ble_eq_true rfl⟩ (fun r ws2 hc => ?_)
    obtain ⟨rfl, hw9⟩ := hc
    obtain rfl := hw9.symm
    refine V_iconstE X (nI 3) dX12_letsOne_25 (by decide +kernel) ?_
    refine V_aload_n0 X dX12_letsOne_26 ?_
    refine V_getf X dX12_letsOne_27 fX12_28 (by assumption) (by rfl) ?_
    refine V_iload_4 X dX12_letsOne_30 ?_
    refine V_iconstE X (nI 4) dX12_letsOne_32 (by decide +kernel) ?_
    refine V_iadd X dX12_letsOne_33 ?_
    refine V_iald X (6 * j + 4) dX12_letsOne_34 (by assumption) (nI_add _ _) (by omega) (by omega) ?_
    rw [hj2 j hj 4 (by decide), markI, if_neg (by decide), if_pos rfl, if_neg e9]
    refine V_imul X dX12_letsOne_35 ?_
    rw [pk_mul]
    refine V_icmp_gt X 43 dX12_letsOne_36 (by decide) (fun h2 => ?_) (fun h2 => ?_)
    · have e8 := c_lt h2
      refine V_iconstE X (nI 0) dX12_letsOne_43 (by decide +kernel) ?_
      exact tail false (by rw [farJ, if_neg e9, decide_eq_false (by omega)])
    · have e8 := c_nlt h2
      refine V_iconstE X (nI 1) dX12_letsOne_39 (by decide +kernel) ?_
      refine V_goto X 44 dX12_letsOne_40 (by decide) ?_
      exact tail true (by rw [farJ, if_neg e9, decide_eq_true (by omega)])
theorem m_letsMany (l : Launch) (G : GX) (ad : Nat → Nat) (ws : List CE) {n mm np : Nat} {rm sa : Int32} {nj tr : Nat} {sd : Int32} {pn hn : Nat} {kl kp kh : Int32} {hs : Int64} (hO : ws[29]? = some (MO n mm np rm sa nj tr sd pn hn kl kp kh hs)) (K : Nat → Nat) (kg : Nat) (Js : Nat → JD) (hJ : MJ ws n K kg nj Js) (a b : Nat) (ha : a < 2147483648) (hb : b < 2147483648) : Ct l G yX12_letsMany cX12_letsMany 5 (some .int) 6 0 0 ad ws [.ref 29, .int (nI a), .int (nI b)] (pI ad (fun r ws2 => r = nI (cnt (fun j => letsJ n K (Js j) a b kg) nj) ∧ ws2 = ws)) := by
  refine Ct.of [some (.ref 29), some (.int (nI a)), some (.int (nI b)), none, none] (by decide +kernel) (Nat.le_of_ble_eq_true rfl) rfl ?_
  intro p e s m args below meth c A X
  have h5 := hJ.2.1
  refine V_iconstE X (nI 0) dX12_letsMany_0 (by decide +kernel) ?_
  refine V_istore_n3 X dX12_letsMany_1 (Nat.le_of_ble_eq_true rfl) rfl ?_
  refine V_iconstE X (nI 0) dX12_letsMany_2 (by decide +kernel) ?_
  refine V_istore_4 X dX12_letsMany_3 (Nat.le_of_ble_eq_true rfl) rfl ?_
  refine V_loopP (fun k lv2 => ∃ f, f + k = nj ∧ lv2 = [some (.ref 29), some (.int (nI a)), some (.int (nI b)), some (.int (nI (cnt (fun j => letsJ n K (Js j) a b kg) f))), some (.int (nI f))]) nj ⟨0, by omega, rfl⟩ ?_
  rintro k _ ⟨f, hf, rfl⟩ ih
  refine V_iload_4 X dX12_letsMany_5 ?_
  refine V_aload_n0 X dX12_letsMany_7 ?_
  refine V_getf X dX12_letsMany_8 fX12_154 (by assumption) (by rfl) ?_
  refine V_icmp_ge X 39 dX12_letsMany_11 (by decide) (fun h => ?_) (fun h => ?_)
  · have e9 : f = nj := by have := c_le h; omega
    subst e9
    refine V_iload_n3 X dX12_letsMany_39 ?_
    exact V_iret X dX12_letsMany_40 ⟨rfl, rfl⟩
  · have e9 := c_nle h
    refine V_iload_n3 X dX12_letsMany_14 ?_
    refine V_aload_n0 X dX12_letsMany_15 ?_
    refine V_iload_4 X dX12_letsMany_16 ?_
    refine V_iload_n1 X dX12_letsMany_18 ?_
    refine V_iload_n2 X dX12_letsMany_19 ?_
    refine V_cV3I X dX12_letsMany_20 kX12_159 (m_letsOne l G ad ws hO K kg Js hJ f a b e9 ha hb) (by assumption) (by rfl) (Nat.le_of_ble_eq_true rfl) ⟨⟨Nat.le_of_ble_eq_true rfl, Nat.le_of_ble_eq_true rfl⟩, Nat.le_of_ble_eq_true rfl, Nat.le_of_ble_eq_true rfl⟩ (fun r ws2 hc => ?_)
    obtain ⟨rfl, hw9⟩ := hc
    obtain rfl := hw9.symm
    refine V_if_eq X 30 dX12_letsMany_23 (by decide) (fun h2 => ?_) (fun h2 => ?_)
    · have e8 := b_of0 h2
      refine V_iconstE X (nI 0) dX12_letsMany_30 (by decide +kernel) ?_
      refine V_iadd X dX12_letsMany_31 ?_
      refine V_istore_n3 X dX12_letsMany_32 (Nat.le_of_ble_eq_true rfl) rfl ?_
      refine V_iinc_4 X dX12_letsMany_33 (Nat.le_of_ble_eq_true rfl) rfl (inc1 _) ?_
      refine V_goto X 5 dX12_letsMany_36 (by decide) ?_
      exact ih (k - 1) _ (by omega) ⟨f + 1, by omega, by rw [nI_add, cnt, e8]; rfl⟩
    · have e8 := b_of1 h2
      refine V_iconstE X (nI 1) dX12_letsMany_26 (by decide +kernel) ?_
      refine V_goto X 31 dX12_letsMany_27 (by decide) ?_
      refine V_iadd X dX12_letsMany_31 ?_
      refine V_istore_n3 X dX12_letsMany_32 (Nat.le_of_ble_eq_true rfl) rfl ?_
      refine V_iinc_4 X dX12_letsMany_33 (Nat.le_of_ble_eq_true rfl) rfl (inc1 _) ?_
      refine V_goto X 5 dX12_letsMany_36 (by decide) ?_
      exact ih (k - 1) _ (by omega) ⟨f + 1, by omega, by rw [nI_add, cnt, e8]; rfl⟩
theorem m_isLet (l : Launch) (G : GX) (ad : Nat → Nat) (ws : List CE) {n mm np : Nat} {rm sa : Int32} {nj tr : Nat} {sd : Int32} {pn hn : Nat} {kl kp kh : Int32} {hs : Int64} (hO : ws[29]? = some (MO n mm np rm sa nj tr sd pn hn kl kp kh hs)) (K : Nat → Nat) (kg : Nat) (Js : Nat → JD) (hJ : MJ ws n K kg nj Js) (a b : Nat) (ha : a < 2147483648) (hb : b < 2147483648) : Ct l G yX12_isLet cX12_isLet 3 (some .boolean) 7 0 0 ad ws [.ref 29, .int (nI a), .int (nI b)] (pI ad (fun r ws2 => r = bI (agreeP n K nj Js a b kg) ∧ ws2 = ws)) := by
  refine Ct.of [some (.ref 29), some (.int (nI a)), some (.int (nI b))] (by decide +kernel) (Nat.le_of_ble_eq_true rfl) rfl ?_
  intro p e s m args below meth c A X
  have h5 := hJ.2.1
  have hcl := cnt_le (fun j => letsJ n K (Js j) a b kg) nj
  refine V_aload_n0 X dX12_isLet_0 ?_
  refine V_getf X dX12_isLet_1 fX12_154 (by assumption) (by rfl) ?_
  refine V_if_eq X 22 dX12_isLet_4 (by decide) (fun h => ?_) (fun h => ?_)
  · have e9 := c_eq0 h
    refine V_iconstE X (nI 1) dX12_isLet_22 (by decide +kernel) ?_
    refine V_goto X 27 dX12_isLet_23 (by decide) ?_
    exact V_zret X dX12_isLet_27 rfl ⟨by rw [agreeP, decide_eq_true e9]; rfl, rfl⟩
  · have e9 := c_ne0 h
    refine V_iconstE X (nI 2) dX12_isLet_7 (by decide +kernel) ?_
    refine V_aload_n0 X dX12_isLet_8 ?_
    refine V_iload_n1 X dX12_isLet_9 ?_
    refine V_iload_n2 X dX12_isLet_10 ?_
    refine V_cV2I X dX12_isLet_11 kX12_163 (m_letsMany l G ad ws hO K kg Js hJ a b ha hb) (by assumption) (by rfl) (Nat.le_of_ble_eq_true rfl) ⟨⟨Nat.le_of_ble_eq_true rfl, Nat.le_of_ble_eq_true rfl⟩, Nat.le_of_ble_eq_true rfl, Nat.le_of_ble_eq_true rfl⟩ (fun r ws2 hc => ?_)
    obtain ⟨rfl, hw9⟩ := hc
    obtain rfl := hw9.symm
    refine V_imul X dX12_isLet_14 ?_
    rw [pk_mul]
    refine V_aload_n0 X dX12_isLet_15 ?_
    refine V_getf X dX12_isLet_16 fX12_154 (by assumption) (by rfl) ?_
    refine V_icmp_le X 26 dX12_isLet_19 (by decide) (fun h2 => ?_) (fun h2 => ?_)
    · have e8 := c_le h2
      refine V_iconstE X (nI 0) dX12_isLet_26 (by decide +kernel) ?_
      exact V_zret X dX12_isLet_27 rfl ⟨by rw [agreeP, decide_eq_false (by omega), decide_eq_false (by omega)]; rfl, rfl⟩
    · have e8 := c_nle h2
      refine V_iconstE X (nI 1) dX12_isLet_22 (by decide +kernel) ?_
      refine V_goto X 27 dX12_isLet_23 (by decide) ?_
      exact V_zret X dX12_isLet_27 rfl ⟨by rw [agreeP, decide_eq_true (show nj < _ from e8)]; simp [bI], rfl⟩
