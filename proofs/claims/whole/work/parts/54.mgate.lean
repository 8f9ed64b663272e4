/-! the reference: the gate, the seed -/
def g3F (o : Option (Nat × Nat × Nat)) : Nat := match o with
  | none => 1000000
  | some q => q.2.2
theorem gate_nxt (nj : Nat) (jc gp : Nat → Nat) (f : Nat) (b : Bool) (hb : b = true ↔ ((0 < jc f ∨ nj = 0) ∧ (gateTo nj jc gp f = none ∨ g2N (gateTo nj jc gp f) < jc f ∨ (jc f = g2N (gateTo nj jc gp f) ∧ gp f < g3F (gateTo nj jc gp f))))) : gateTo nj jc gp (f + 1) = if b then some (f, jc f, gp f) else gateTo nj jc gp f := by
  rw [gateTo]
  cases hs : gateTo nj jc gp f with
  | none =>
    rw [hs] at hb
    by_cases h : 0 < jc f ∨ nj = 0
    · rw [hb.mpr ⟨h, Or.inl rfl⟩]
      show (if _ then _ else _) = _
      rw [if_pos h]; rfl
    · have e : b = false := by
        cases b
        · rfl
        · exact absurd (hb.mp rfl).1 h
      show (if _ then _ else _) = _
      rw [e, if_neg h]; rfl
  | some q =>
    rw [hs] at hb
    show (if _ then _ else _) = _
    by_cases h : (0 < jc f ∨ nj = 0) ∧ (q.2.1 < jc f ∨ (jc f = q.2.1 ∧ gp f < q.2.2))
    · rw [if_pos h, hb.mpr ⟨h.1, Or.inr h.2⟩]; rfl
    · have e : b = false := by
        cases b
        · rfl
        · obtain ⟨a1, a2⟩ := hb.mp rfl
          rcases a2 with a2 | a2
          · cases a2
          · exact absurd ⟨a1, a2⟩ h
      rw [if_neg h, e]; rfl
set_option maxHeartbeats 1000000 in
theorem m_gateOf (l : Launch) (G : GX) (ad : Nat → Nat) (ws : List CE) {n mm np : Nat} {rm sa : Int32} {nj tr : Nat} {sd : Int32} {pn hn : Nat} {kl kp kh : Int32} {hs : Int64} (hO : ws[29]? = some (MO n mm np rm sa nj tr sd pn hn kl kp kh hs)) (hm : 0 < mm) (h6 : mm ≤ 60) (Ln : Nat → Nat) (hl : AI ws 32 60 mm Ln) (hL : ∀ i, i < mm → Ln i < 10000) (K : Nat → Nat) (kg : Nat) (Js : Nat → JD) (hJ : MJ ws n K kg nj Js) (hpn : pn ≤ 6) (Pe : Nat → Nat) (hP6 : AI ws 39 6 pn Pe) (hPe : ∀ i, i < pn → Pe i < 10000) : Ct l G yX12_gateOf cX12_gateOf 8 (some .int) 7 0 0 ad ws [.ref 29] (pI ad (fun r ws2 => r = g1I (gateTo nj (fun i => cnt (fun j => letsJ n K (Js j) (Ln (mm - 1)) (Pe i) kg) nj) (fun i => gapP n K (Ln (mm - 1)) (Pe i)) pn) ∧ ws2 = ws)) := by
  refine Ct.of [some (.ref 29), none, none, none, none, none, none, none] (by decide +kernel) (Nat.le_of_ble_eq_true rfl) rfl ?_
  intro p e s m args below meth c A X
  have hla := hL (mm - 1) (by omega)
  have h4 := hJ.1
  have h5 := hJ.2.1
  obtain ⟨fp, hp1, hp2⟩ := hP6
  refine V_iconstE X (-1) dX12_gateOf_0 (by decide +kernel) ?_
  refine V_istore_n1 X dX12_gateOf_1 (Nat.le_of_ble_eq_true rfl) rfl ?_
  refine V_iconstE X (nI 0) dX12_gateOf_2 (by decide +kernel) ?_
  refine V_istore_n2 X dX12_gateOf_3 (Nat.le_of_ble_eq_true rfl) rfl ?_
  refine V_ldc X dX12_gateOf_4 w_1039 ?_
  refine V_istore_n3 X dX12_gateOf_6 (Nat.le_of_ble_eq_true rfl) rfl ?_
  refine V_iconstE X (nI 0) dX12_gateOf_7 (by decide +kernel) ?_
  refine V_istore_4 X dX12_gateOf_8 (Nat.le_of_ble_eq_true rfl) rfl ?_
  refine V_loopP (fun k lv2 => ∃ f w5 w6 w7, f + k = pn ∧ lv2 = [some (.ref 29), some (.int (g1I (gateTo nj (fun i => cnt (fun j => letsJ n K (Js j) (Ln (mm - 1)) (Pe i) kg) nj) (fun i => gapP n K (Ln (mm - 1)) (Pe i)) f))), some (.int (nI (g2N (gateTo nj (fun i => cnt (fun j => letsJ n K (Js j) (Ln (mm - 1)) (Pe i) kg) nj) (fun i => gapP n K (Ln (mm - 1)) (Pe i)) f)))), some (.int (nI (g3F (gateTo nj (fun i => cnt (fun j => letsJ n K (Js j) (Ln (mm - 1)) (Pe i) kg) nj) (fun i => gapP n K (Ln (mm - 1)) (Pe i)) f)))), some (.int (nI f)), w5, w6, w7]) pn ⟨0, none, none, none, by omega, rfl⟩ ?_
  rintro k _ ⟨f, w5, w6, w7, hf, rfl⟩ ih
  refine V_iload_4 X dX12_gateOf_10 ?_
  refine V_aload_n0 X dX12_gateOf_12 ?_
  refine V_getf X dX12_gateOf_13 fX12_208 (by assumption) (by rfl) ?_
  refine V_icmp_ge X 137 dX12_gateOf_16 (by decide) (fun h => ?_) (fun h => ?_)
  · have e9 : f = pn := by have := c_le h; omega
    subst e9
    refine V_iload_n1 X dX12_gateOf_137 ?_
    exact V_iret X dX12_gateOf_138 ⟨rfl, rfl⟩
  · have e9 := c_nle h
    have hpf := hPe f e9
    have hnx := gate_nxt nj (fun i => cnt (fun j => letsJ n K (Js j) (Ln (mm - 1)) (Pe i) kg) nj) (fun i => gapP n K (Ln (mm - 1)) (Pe i)) f
    have hcl := cnt_le (fun j => letsJ n K (Js j) (Ln (mm - 1)) (Pe f) kg) nj
    have hgl := gapP_le n K (Ln (mm - 1)) (Pe f)
    have hat := gateTo_at nj (fun i => cnt (fun j => letsJ n K (Js j) (Ln (mm - 1)) (Pe i) kg) nj) (fun i => gapP n K (Ln (mm - 1)) (Pe i)) f
    have hcl2 := fun i => cnt_le (fun j => letsJ n K (Js j) (Ln (mm - 1)) (Pe i) kg) nj
    have hgl2 := fun i => gapP_le n K (Ln (mm - 1)) (Pe i)
    have ih' := fun (o : Option (Nat × Nat × Nat)) (x5 x6 x7 : Option Value) (ho : gateTo nj (fun i => cnt (fun j => letsJ n K (Js j) (Ln (mm - 1)) (Pe i) kg) nj) (fun i => gapP n K (Ln (mm - 1)) (Pe i)) (f + 1) = o) => ih (k - 1) [some (.ref 29), some (.int (g1I o)), some (.int (nI (g2N o))), some (.int (nI (g3F o))), some (.int (nI (f + 1))), x5, x6, x7] (by omega) ⟨f + 1, x5, x6, x7, by omega, by rw [← ho]⟩
    clear ih
    generalize gateTo nj (fun i => cnt (fun j => letsJ n K (Js j) (Ln (mm - 1)) (Pe i) kg) nj) (fun i => gapP n K (Ln (mm - 1)) (Pe i)) f = o at hnx hat ⊢
    have ho2 : g2N o ≤ 5 := by
      cases o with
      | none => exact Nat.zero_le _
      | some q => show q.2.1 ≤ 5; rw [(hat q rfl).2.1]; have := hcl2 q.1; omega
    have ho3 : g3F o ≤ 1000000 := by
      cases o with
      | none => exact Nat.le_refl _
      | some q => show q.2.2 ≤ _; rw [(hat q rfl).2.2]; have := hgl2 q.1; omega
    have ho1 : g1I o = -1 ↔ o = none := by
      cases o with
      | none => exact ⟨fun _ => rfl, fun _ => rfl⟩
      | some q => exact ⟨fun e => absurd e (nI_m1 (by have := (hat q rfl).1; omega)), fun e => by cases e⟩
    refine V_aload_n0 X dX12_gateOf_19 ?_
    refine V_aload_n0 X dX12_gateOf_20 ?_
    refine V_cV0I X dX12_gateOf_21 kX12_91 (m_last l G ad ws hO hm h6 Ln hl) (by assumption) (by rfl) (Nat.le_of_ble_eq_true rfl) ⟨⟨Nat.le_of_ble_eq_true rfl, Nat.le_of_ble_eq_true rfl⟩, Nat.le_of_ble_eq_true rfl, Nat.le_of_ble_eq_true rfl⟩ (fun r ws2 hc => ?_)
    obtain ⟨rfl, hw9⟩ := hc
    obtain rfl := hw9.symm
    refine V_aload_n0 X dX12_gateOf_24 ?_
    refine V_getf X dX12_gateOf_25 fX12_37 (by assumption) (by rfl) ?_
    refine V_iload_4 X dX12_gateOf_28 ?_
    refine V_iald X f dX12_gateOf_30 (by assumption) rfl (by omega) (by omega) ?_
    rw [hp2 f e9]
    refine V_cV2I X dX12_gateOf_31 kX12_163 (m_letsMany l G ad ws hO K kg Js hJ _ _ (by omega) (by omega)) (by assumption) (by rfl) (Nat.le_of_ble_eq_true rfl) ⟨⟨Nat.le_of_ble_eq_true rfl, Nat.le_of_ble_eq_true rfl⟩, Nat.le_of_ble_eq_true rfl, Nat.le_of_ble_eq_true rfl⟩ (fun r ws2 hc => ?_)
    obtain ⟨rfl, hw9⟩ := hc
    obtain rfl := hw9.symm
    refine V_istore_5 X dX12_gateOf_34 (Nat.le_of_ble_eq_true rfl) rfl ?_
    refine V_aload_n0 X dX12_gateOf_36 ?_
    refine V_aload_n0 X dX12_gateOf_37 ?_
    refine V_cV0I X dX12_gateOf_38 kX12_91 (m_last l G ad ws hO hm h6 Ln hl) (by assumption) (by rfl) (Nat.le_of_ble_eq_true rfl) ⟨⟨Nat.le_of_ble_eq_true rfl, Nat.le_of_ble_eq_true rfl⟩, Nat.le_of_ble_eq_true rfl, Nat.le_of_ble_eq_true rfl⟩ (fun r ws2 hc => ?_)
    obtain ⟨rfl, hw9⟩ := hc
    obtain rfl := hw9.symm
    refine V_aload_n0 X dX12_gateOf_41 ?_
    refine V_getf X dX12_gateOf_42 fX12_37 (by assumption) (by rfl) ?_
    refine V_iload_4 X dX12_gateOf_45 ?_
    refine V_iald X f dX12_gateOf_47 (by assumption) rfl (by omega) (by omega) ?_
    rw [hp2 f e9]
    refine V_cV2I X dX12_gateOf_48 kX12_121 (m_apartOf l G ad ws hO h4 K hJ.2.2.2.2.1 hJ.2.2.1 _ _ (by omega) (by omega)) (by assumption) (by rfl) (Nat.le_of_ble_eq_true rfl) ⟨⟨Nat.le_of_ble_eq_true rfl, Nat.le_of_ble_eq_true rfl⟩, Nat.le_of_ble_eq_true rfl, Nat.le_of_ble_eq_true rfl⟩ (fun r ws2 hc => ?_)
    obtain ⟨rfl, hw9⟩ := hc
    obtain rfl := hw9.symm
    have tail : ∀ b : Bool, (b = true ↔ ((0 < cnt (fun j => letsJ n K (Js j) (Ln (mm - 1)) (Pe f) kg) nj ∨ nj = 0) ∧ (o = none ∨ g2N o < cnt (fun j => letsJ n K (Js j) (Ln (mm - 1)) (Pe f) kg) nj ∨ (cnt (fun j => letsJ n K (Js j) (Ln (mm - 1)) (Pe f) kg) nj = g2N o ∧ gapP n K (Ln (mm - 1)) (Pe f) < g3F o)))) → V p l e (rmm 7 0 0) s m args below meth c 0 0 (MQ below (QQ G A (pI ad (fun r ws2 => r = g1I (gateTo nj (fun i => cnt (fun j => letsJ n K (Js j) (Ln (mm - 1)) (Pe i) kg) nj) (fun i => gapP n K (Ln (mm - 1)) (Pe i)) pn) ∧ ws2 = ws))) args s 0 0 A) G A 8 ad ws 93 [some (.ref 29), some (.int (g1I o)), some (.int (nI (g2N o))), some (.int (nI (g3F o))), some (.int (nI f)), some (.int (nI (cnt (fun j => letsJ n K (Js j) (Ln (mm - 1)) (Pe f) kg) nj))), some (.int (nI (gapP n K (Ln (mm - 1)) (Pe f)))), w7] [.int (bI b)] := by
      intro b hb
      have hn := hnx b hb
      cases b with
      | true =>
        refine V_istore_7 X dX12_gateOf_93 (Nat.le_of_ble_eq_true rfl) rfl ?_
        refine V_iload_7 X dX12_gateOf_95 ?_
        refine V_if_eq X 105 dX12_gateOf_97 (by decide) (fun q1 => ?_) (fun q1 => ?_)
        · exact absurd q1 (by decide)
        · refine V_iload_4 X dX12_gateOf_100 ?_
          refine V_goto X 106 dX12_gateOf_102 (by decide) ?_
          refine V_istore_n1 X dX12_gateOf_106 (Nat.le_of_ble_eq_true rfl) rfl ?_
          refine V_iload_7 X dX12_gateOf_107 ?_
          refine V_if_eq X 117 dX12_gateOf_109 (by decide) (fun q2 => ?_) (fun q2 => ?_)
          · exact absurd q2 (by decide)
          · refine V_iload_5 X dX12_gateOf_112 ?_
            refine V_goto X 118 dX12_gateOf_114 (by decide) ?_
            refine V_istore_n2 X dX12_gateOf_118 (Nat.le_of_ble_eq_true rfl) rfl ?_
            refine V_iload_7 X dX12_gateOf_119 ?_
            refine V_if_eq X 129 dX12_gateOf_121 (by decide) (fun q3 => ?_) (fun q3 => ?_)
            · exact absurd q3 (by decide)
            · refine V_iload_6 X dX12_gateOf_124 ?_
              refine V_goto X 130 dX12_gateOf_126 (by decide) ?_
              refine V_istore_n3 X dX12_gateOf_130 (Nat.le_of_ble_eq_true rfl) rfl ?_
              refine V_iinc_4 X dX12_gateOf_131 (Nat.le_of_ble_eq_true rfl) rfl (inc1 _) ?_
              refine V_goto X 10 dX12_gateOf_134 (by decide) ?_
              exact ih' _ _ _ _ hn
      | false =>
        refine V_istore_7 X dX12_gateOf_93 (Nat.le_of_ble_eq_true rfl) rfl ?_
        refine V_iload_7 X dX12_gateOf_95 ?_
        refine V_if_eq X 105 dX12_gateOf_97 (by decide) (fun q1 => ?_) (fun q1 => ?_)
        · refine V_iload_n1 X dX12_gateOf_105 ?_
          refine V_istore_n1 X dX12_gateOf_106 (Nat.le_of_ble_eq_true rfl) rfl ?_
          refine V_iload_7 X dX12_gateOf_107 ?_
          refine V_if_eq X 117 dX12_gateOf_109 (by decide) (fun q2 => ?_) (fun q2 => ?_)
          · refine V_iload_n2 X dX12_gateOf_117 ?_
            refine V_istore_n2 X dX12_gateOf_118 (Nat.le_of_ble_eq_true rfl) rfl ?_
            refine V_iload_7 X dX12_gateOf_119 ?_
            refine V_if_eq X 129 dX12_gateOf_121 (by decide) (fun q3 => ?_) (fun q3 => ?_)
            · refine V_iload_n3 X dX12_gateOf_129 ?_
              refine V_istore_n3 X dX12_gateOf_130 (Nat.le_of_ble_eq_true rfl) rfl ?_
              refine V_iinc_4 X dX12_gateOf_131 (Nat.le_of_ble_eq_true rfl) rfl (inc1 _) ?_
              refine V_goto X 10 dX12_gateOf_134 (by decide) ?_
              exact ih' _ _ _ _ hn
            · exact absurd (by decide) q3
          · exact absurd (by decide) q2
        · exact absurd (by decide) q1
    have mid : (0 < cnt (fun j => letsJ n K (Js j) (Ln (mm - 1)) (Pe f) kg) nj ∨ nj = 0) → V p l e (rmm 7 0 0) s m args below meth c 0 0 (MQ below (QQ G A (pI ad (fun r ws2 => r = g1I (gateTo nj (fun i => cnt (fun j => letsJ n K (Js j) (Ln (mm - 1)) (Pe i) kg) nj) (fun i => gapP n K (Ln (mm - 1)) (Pe i)) pn) ∧ ws2 = ws))) args s 0 0 A) G A 8 ad ws 65 [some (.ref 29), some (.int (g1I o)), some (.int (nI (g2N o))), some (.int (nI (g3F o))), some (.int (nI f)), some (.int (nI (cnt (fun j => letsJ n K (Js j) (Ln (mm - 1)) (Pe f) kg) nj))), some (.int (nI (gapP n K (Ln (mm - 1)) (Pe f)))), w7] [] := by
      intro hz
      refine V_iload_n1 X dX12_gateOf_65 ?_
      refine V_iconstE X (-1) dX12_gateOf_66 (by decide +kernel) ?_
      refine V_icmp_eq X 88 dX12_gateOf_67 (by decide) (fun q1 => ?_) (fun q1 => ?_)
      · refine V_iconstE X (nI 1) dX12_gateOf_88 (by decide +kernel) ?_
        refine V_goto X 93 dX12_gateOf_89 (by decide) ?_
        exact tail true (by simp [hz, ho1.mp q1])
      · have r1 : ¬ o = none := fun e => q1 (ho1.mpr e)
        refine V_iload_5 X dX12_gateOf_70 ?_
        refine V_iload_n2 X dX12_gateOf_72 ?_
        refine V_icmp_gt X 88 dX12_gateOf_73 (by decide) (fun q2 => ?_) (fun q2 => ?_)
        · have r2 := c_lt q2
          refine V_iconstE X (nI 1) dX12_gateOf_88 (by decide +kernel) ?_
          refine V_goto X 93 dX12_gateOf_89 (by decide) ?_
          exact tail true (by simp [hz, r2])
        · have r2 := c_nlt q2
          refine V_iload_5 X dX12_gateOf_76 ?_
          refine V_iload_n2 X dX12_gateOf_78 ?_
          refine V_icmp_ne X 92 dX12_gateOf_79 (by decide) (fun q3 => ?_) (fun q3 => ?_)
          · have r3 := c_ne q3
            refine V_iconstE X (nI 0) dX12_gateOf_92 (by decide +kernel) ?_
            exact tail false (by simp [r1, r3]; intro _; omega)
          · have r3 := c_eq q3
            refine V_iload_6 X dX12_gateOf_82 ?_
            refine V_iload_n3 X dX12_gateOf_84 ?_
            refine V_icmp_ge X 92 dX12_gateOf_85 (by decide) (fun q4 => ?_) (fun q4 => ?_)
            · have r4 := c_le q4
              refine V_iconstE X (nI 0) dX12_gateOf_92 (by decide +kernel) ?_
              exact tail false (by simp [r1]; intro _; exact ⟨r2, fun _ => r4⟩)
            · have r4 := c_nle q4
              refine V_iconstE X (nI 1) dX12_gateOf_88 (by decide +kernel) ?_
              refine V_goto X 93 dX12_gateOf_89 (by decide) ?_
              exact tail true ⟨fun _ => ⟨hz, Or.inr (Or.inr ⟨r3, r4⟩)⟩, fun _ => rfl⟩
    refine V_istore_6 X dX12_gateOf_51 (Nat.le_of_ble_eq_true rfl) rfl ?_
    refine V_iload_5 X dX12_gateOf_53 ?_
    refine V_if_gt X 65 dX12_gateOf_55 (by decide) (fun h2 => ?_) (fun h2 => ?_)
    · exact mid (Or.inl (by
        rcases Nat.eq_zero_or_pos (cnt (fun j => letsJ n K (Js j) (Ln (mm - 1)) (Pe f) kg) nj) with q | q
        · rw [q] at h2; exact absurd h2 (by decide)
        · exact q))
    · have r0 : cnt (fun j => letsJ n K (Js j) (Ln (mm - 1)) (Pe f) kg) nj = 0 := by
        rcases Nat.eq_zero_or_pos (cnt (fun j => letsJ n K (Js j) (Ln (mm - 1)) (Pe f) kg) nj) with q | q
        · exact q
        · exact absurd (Int32.not_le.mp (nI_nle q (by omega))) h2
      refine V_aload_n0 X dX12_gateOf_58 ?_
      refine V_getf X dX12_gateOf_59 fX12_154 (by assumption) (by rfl) ?_
      refine V_if_ne X 92 dX12_gateOf_62 (by decide) (fun h3 => ?_) (fun h3 => ?_)
      · have r1 := c_ne0 h3
        refine V_iconstE X (nI 0) dX12_gateOf_92 (by decide +kernel) ?_
        exact tail false (by simp [r0]; omega)
      · exact mid (Or.inr (c_eq0 h3))
theorem m_draw (l : Launch) (G : GX) (ad : Nat → Nat) (ws : List CE) {n mm np : Nat} {rm sa : Int32} {nj tr : Nat} {sd : Int32} {pn hn : Nat} {kl kp kh : Int32} {hs : Int64} (hO : ws[29]? = some (MO n mm np rm sa nj tr sd pn hn kl kp kh hs)) (s0 of : Nat) (hsd : sd = nI s0) (hs2 : s0 < 2147483648) (ho : 0 < of) (ho2 : of < 1000) : Ct l G yX12_draw cX12_draw 2 (some .int) 0 0 0 ad ws [.ref 29, .int (nI of)] (pI ad (fun r ws2 => r = nI (nxN s0 / 65536 % of) ∧ ws2 = ws.set 29 (MO n mm np rm sa nj tr (nI (nxN s0)) pn hn kl kp kh hs))) := by
  refine Ct.of [some (.ref 29), some (.int (nI of))] (by decide +kernel) (Nat.le_of_ble_eq_true rfl) rfl ?_
  intro p e s m args below meth c A X
  subst hsd
  refine V_aload_n0 X dX12_draw_0 ?_
  refine V_ldc2 X dX12_draw_1 w_1074 ?_
  refine V_aload_n0 X dX12_draw_4 ?_
  refine V_getf X dX12_draw_5 fX12_187 (by assumption) (by rfl) ?_
  refine V_i2l X dX12_draw_8 ?_
  refine V_lmul X dX12_draw_9 ?_
  refine V_ldc2 X dX12_draw_10 w_1075 ?_
  refine V_ladd X dX12_draw_13 ?_
  refine V_ldc2 X dX12_draw_14 w_1076 ?_
  refine V_land X dX12_draw_17 ?_
  refine V_l2i X dX12_draw_18 ?_
  have e1 : ((1103515245 * (nI s0).toInt64 + 12345) &&& 2147483647 : Int64).toInt32 = nI (nxN s0) := i64_nx hs2
  rw [e1]
  refine V_putf X dX12_draw_19 fX12_187 (by assumption) (Nat.le_of_ble_eq_true rfl) rfl rfl ?_
  have hO2 : (ws.set 29 (MO n mm np rm sa nj tr (nI (nxN s0)) pn hn kl kp kh hs))[29]? = some (MO n mm np rm sa nj tr (nI (nxN s0)) pn hn kl kp kh hs) := gset hO
  have hx : nxN s0 < 2147483648 := Nat.mod_lt _ (by decide)
  refine V_aload_n0 X dX12_draw_22 ?_
  refine V_getf X dX12_draw_23 fX12_187 (by assumption) (by rfl) ?_
  refine V_ldc X dX12_draw_26 w_1077 ?_
  refine V_idiv X dX12_draw_28 (by decide +kernel) ?_
  refine V_iload_n1 X dX12_draw_29 ?_
  refine V_irem X dX12_draw_30 (nI_ne0 ho (by omega)) ?_
  refine V_iret X dX12_draw_31 ⟨?_, rfl⟩
  rw [show (65536 : Int32) = nI 65536 by rfl, pk_div (by omega) (by decide) (by decide)]
  exact pk_rem (Nat.lt_of_le_of_lt (Nat.div_le_self _ _) (by omega)) ho (by omega)
