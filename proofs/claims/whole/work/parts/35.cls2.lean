/-! counts by distances -/
def metTo (ok : Nat → Bool) (gp : Nat → Nat) : Nat → Nat → Nat
  | 0 => fun _ => 0
  | s + 1 => if ok s then (fun i => if i = gp s then metTo ok gp s i + 1 else metTo ok gp s i) else metTo ok gp s
def porTo (met : Nat → Nat → Nat) : Nat → Nat → Nat
  | 0 => fun d => if d = 0 then 1 else 0
  | f + 1 => conv (met f) (porTo met f)
def okP (K : Nat → Nat) (q : JD) (la kg f s : Nat) : Bool := decide (gapK (K f) (dg la f) s ≤ q.1 f) && (decide (s = dg kg f) || !bndJ q f)
def metP (K : Nat → Nat) (q : JD) (la kg f : Nat) : Nat → Nat := metTo (okP K q la kg f) (fun s => gapK (K f) (dg la f) s) 10
def passN (n : Nat) (K : Nat → Nat) (q : JD) (la kg : Nat) : Nat := sumF (porTo (metP K q la kg) n) (min (farJ q + 1) 37)
def metW (K : Nat → Nat) (la f : Nat) : Nat → Nat := metTo (fun _ => true) (fun s => stepK (K f) s (dg la f)) 10
def withinN (n : Nat) (K : Nat → Nat) (la years : Nat) : Nat := sumF (porTo (metW K la) n) (min (years + 1) 37)
theorem metTo_yes {ok : Nat → Bool} {gp : Nat → Nat} {s : Nat} (h : ok s = true) : metTo ok gp (s + 1) = fun i => if i = gp s then metTo ok gp s i + 1 else metTo ok gp s i := by rw [metTo, if_pos h]
theorem metTo_no {ok : Nat → Bool} {gp : Nat → Nat} {s : Nat} (h : ok s = false) : metTo ok gp (s + 1) = metTo ok gp s := by rw [metTo, if_neg (by rw [h]; decide)]
def CenI (ws : List CE) : Prop := ∃ por, CensusAt ws (fun _ => 0) por
set_option maxHeartbeats 2000000 in
theorem t_passing (l : Launch) (G : GX) (ad : Nat → Nat) (ws : List CE) (n nj : Nat) (K : Nat → Nat) (Js : Nat → JD) (kg mm : Nat) (Ln : Nat → Nat) (hO : ObjAt ws kg) (hL : LooksAt ws n K) (hM : MarksAt ws n nj Js) (hC : CenI ws) (hR : RowN ws 23 24 60 mm Ln) (hkP : ad kP = G.2.2.2) (hk : kg < 10000) (hm : 0 < mm) (la : Nat) (hla : Ln (mm - 1) = la) (hLn : la < 10000) (j : Nat) (hj : j < nj) : Ct l G yX11_passing cX11_passing 7 (some .int) 5 0 0 ad ws [.ref 0, .int (nI j)] (pI ad (fun r ws2 => r = nI (passN n K (Js j) la kg) ∧ CenI ws2 ∧ fr cen4 ws ws2)) := by
  refine Ct.of [some (.ref 0), some (.int (nI j)), none, none, none, none, none] (by decide +kernel) (Nat.le_of_ble_eq_true rfl) rfl ?_
  intro p e s m args below meth c A X
  have hn := hL.1
  have hnj := hM.2.1
  obtain ⟨por0, hC0⟩ := hC
  obtain ⟨tr, kk, km, kp, kh, z0⟩ := hO
  obtain ⟨fl, hR1, hR2⟩ := hR
  have z23 := hR1.1
  have hm60 := hR1.2.2.1
  refine V_aload_n0 X dX11_passing_0 ?_
  refine V_getf X dX11_passing_1 fX11_57 (by assumption) (by rfl) ?_
  refine V_cV0I X dX11_passing_4 kX11_138 (t_Rlast l G ad ws 23 24 60 mm fl hR1 hm) (by assumption) (by rfl) (Nat.le_of_ble_eq_true rfl) ⟨⟨Nat.le_of_ble_eq_true rfl, Nat.le_of_ble_eq_true rfl⟩, Nat.le_of_ble_eq_true rfl, Nat.le_of_ble_eq_true rfl⟩ (fun r ws2 hc => ?_)
  obtain ⟨rfl, hw9⟩ := hc
  obtain rfl := hw9.symm
  rw [hR2 _ (by omega), hla]
  refine V_istore_n2 X dX11_passing_7 (Nat.le_of_ble_eq_true rfl) rfl ?_
  refine V_aload_n0 X dX11_passing_8 ?_
  refine V_getf X dX11_passing_9 fX11_28 (by assumption) (by rfl) ?_
  have z9 := hC0.choose_spec.choose_spec.choose_spec.choose_spec.choose_spec.2.1
  refine V_cV0V X dX11_passing_12 kX11_272 (t_open l G ad ws (fun _ => 0) por0 hC0) (by assumption) (by rfl) (Nat.le_of_ble_eq_true rfl) ⟨⟨Nat.le_of_ble_eq_true rfl, Nat.le_of_ble_eq_true rfl⟩, Nat.le_of_ble_eq_true rfl, Nat.le_of_ble_eq_true rfl⟩ (fun ws2 hc => ?_)
  obtain ⟨hC1, hf1⟩ := hc
  generalize ws2 = wa at hC1 hf1 ⊢
  refine V_iconstE X (nI 0) dX11_passing_15 (by decide +kernel) ?_
  refine V_istore_n3 X dX11_passing_16 (Nat.le_of_ble_eq_true rfl) rfl ?_
  refine V_loop (fun k wk lv2 => ∃ (f : Nat) (w4 w5 w6 : Option Value), f + k = n ∧ lv2 = [some (.ref 0), some (.int (nI j)), some (.int (nI la)), some (.int (nI f)), w4, w5, w6] ∧ (noL lv2 5 && noL lv2 6) = true ∧ fr cen4 ws wk ∧ CensusAt wk (fun _ => 0) (porTo (metP K (Js j) la kg) f)) n ⟨0, none, none, none, by omega, rfl, by rfl, hf1, hC1⟩ ?_
  rintro k wk _ ⟨f, w4, w5, w6, hf, rfl, hno, hfk, hCk⟩ ih
  have hLk := hL.fr hfk (by decide)
  have hMk := hM.fr hfk (by decide) (by decide)
  have y0 := hfk.get (by decide) z0
  have y1 := hLk.2.1
  have y4 := hMk.1
  have y9 := hCk.choose_spec.choose_spec.choose_spec.choose_spec.choose_spec.2.1
  refine V_iload_n3 X dX11_passing_17 ?_
  refine V_aload_n0 X dX11_passing_18 ?_
  refine V_getf X dX11_passing_19 fX11_12 (by assumption) (by rfl) ?_
  refine V_cV0I X dX11_passing_22 kX11_122 (t_Lsize l G ad wk n K hLk) (by assumption) (by rfl) (Nat.le_of_ble_eq_true rfl) ⟨⟨Nat.le_of_ble_eq_true rfl, Nat.le_of_ble_eq_true rfl⟩, Nat.le_of_ble_eq_true rfl, Nat.le_of_ble_eq_true rfl⟩ (fun r ws2 hc => ?_)
  obtain ⟨rfl, hw9⟩ := hc
  obtain rfl := hw9.symm
  refine V_icmp_ge X 129 dX11_passing_25 (by decide) (fun h => ?_) (fun h => ?_)
  · have e9 : f = n := by have := (nI_leI (by omega) (by omega)).mp h; omega
    have hfar := farJ_lt (hM.2.2.1 j hj)
    refine V_aload_n0 X dX11_passing_129 ?_
    refine V_getf X dX11_passing_130 fX11_28 (by assumption) (by rfl) ?_
    refine V_aload_n0 X dX11_passing_133 ?_
    refine V_getf X dX11_passing_134 fX11_21 (by assumption) (by rfl) ?_
    refine V_iload_n1 X dX11_passing_137 ?_
    refine V_cV1I X dX11_passing_138 kX11_288 (t_farthest l G ad wk n nj Js hMk j hj) (by assumption) (by rfl) (Nat.le_of_ble_eq_true rfl) ⟨⟨Nat.le_of_ble_eq_true rfl, Nat.le_of_ble_eq_true rfl⟩, Nat.le_of_ble_eq_true rfl, Nat.le_of_ble_eq_true rfl⟩ (fun r ws2 hc => ?_)
    obtain ⟨rfl, hw9⟩ := hc
    obtain rfl := hw9.symm
    refine V_cV1I X dX11_passing_141 kX11_291 (t_upTo l G ad wk _ _ hCk (farJ (Js j)) (by omega)) (by assumption) (by rfl) (Nat.le_of_ble_eq_true rfl) ⟨⟨Nat.le_of_ble_eq_true rfl, Nat.le_of_ble_eq_true rfl⟩, Nat.le_of_ble_eq_true rfl, Nat.le_of_ble_eq_true rfl⟩ (fun r ws2 hc => ?_)
    obtain ⟨rfl, hw9⟩ := hc
    obtain rfl := hw9.symm
    exact V_iret X dX11_passing_144 ⟨by rw [e9]; rfl, ⟨_, hCk⟩, hfk⟩
  · have e9 : f < n := by
      rcases Nat.lt_or_ge f n with q9 | q9
      · exact q9
      · exact absurd ((nI_leI (by omega) (by omega)).mpr q9) h
    simp only [Bool.and_eq_true] at hno
    refine V_iload_n2 X dX11_passing_28 ?_
    refine V_iload_n3 X dX11_passing_29 ?_
    refine V_cS2I X dX11_passing_30 kX11_262 (t_sizeIn l G ad wk hkP la f (by omega) (by omega)) (Nat.le_of_ble_eq_true rfl) ⟨⟨Nat.le_of_ble_eq_true rfl, Nat.le_of_ble_eq_true rfl⟩, Nat.le_of_ble_eq_true rfl, Nat.le_of_ble_eq_true rfl⟩ (fun r ws2 hc => ?_)
    obtain ⟨rfl, hw9⟩ := hc
    obtain rfl := hw9.symm
    refine V_istore_4 X dX11_passing_33 (Nat.le_of_ble_eq_true rfl) rfl ?_
    refine V_iconstE X (nI 0) dX11_passing_35 (by decide +kernel) ?_
    refine V_istore_5 X dX11_passing_36 (Nat.le_of_ble_eq_true rfl) rfl ?_
    refine V_loop (fun k2 wz lv2 => ∃ (sz : Nat) (w6 : Option Value), sz ≤ 10 ∧ sz + k2 = 10 ∧ lv2 = [some (.ref 0), some (.int (nI j)), some (.int (nI la)), some (.int (nI f)), some (.int (nI (dg la f))), some (.int (nI sz)), w6] ∧ fr cen4 ws wz ∧ CensusAt wz (metTo (okP K (Js j) la kg f) (fun s => gapK (K f) (dg la f) s) sz) (porTo (metP K (Js j) la kg) f)) 10 ⟨0, w6, by omega, by omega, rfl, hfk, hCk⟩ ?_
    rintro k2 wz _ ⟨sz, w6, hs, hsk, rfl, hfz, hCz⟩ ih2
    have hLz := hL.fr hfz (by decide)
    have hMz := hM.fr hfz (by decide) (by decide)
    have x0 := hfz.get (by decide) z0
    have x1 := hLz.2.1
    have x4 := hMz.1
    have x9 := hCz.choose_spec.choose_spec.choose_spec.choose_spec.choose_spec.2.1
    refine V_iload_5 X dX11_passing_38 ?_
    refine V_bipushE X (nI 10) dX11_passing_40 (by decide +kernel) ?_
    refine V_icmp_ge X 116 dX11_passing_42 (by decide) (fun h10 => ?_) (fun h10 => ?_)
    · have e10 : sz = 10 := by have := (nI_leI (a := 10) (b := sz) (by omega) (by omega)).mp h10; omega
      subst e10
      refine V_aload_n0 X dX11_passing_116 ?_
      refine V_getf X dX11_passing_117 fX11_28 (by assumption) (by rfl) ?_
      refine V_cV0V X dX11_passing_120 kX11_285 (t_close l G ad wz _ _ hCz) (by assumption) (by rfl) (Nat.le_of_ble_eq_true rfl) ⟨⟨Nat.le_of_ble_eq_true rfl, Nat.le_of_ble_eq_true rfl⟩, Nat.le_of_ble_eq_true rfl, Nat.le_of_ble_eq_true rfl⟩ (fun ws2 hc => ?_)
      obtain ⟨hC5, hf5⟩ := hc
      refine V_iinc_3 X dX11_passing_123 (Nat.le_of_ble_eq_true rfl) rfl (inc1 _) ?_
      refine V_goto X 17 dX11_passing_126 (by decide) ?_
      exact ih (k - 1) _ _ (by omega) ⟨f + 1, _, _, w6, by omega, rfl, by rfl, hfz.trans hf5, hC5⟩
    · have e10 : sz < 10 := by
        rcases Nat.lt_or_ge sz 10 with q9 | q9
        · exact q9
        · exact absurd ((nI_leI (a := 10) (b := sz) (by omega) (by omega)).mpr q9) h10
      have hgl := gapK_lt (k := K f) (dg_lt la f) e10
      have nxt : ∀ (wy : List CE), fr cen4 ws wy → CensusAt wy (metTo (okP K (Js j) la kg f) (fun s => gapK (K f) (dg la f) s) (sz + 1)) (porTo (metP K (Js j) la kg) f) → V p l e (rmm 5 0 0) s m args below meth c 0 0 (MQ below (QQ G A (pI ad (fun r ws2 => r = nI (passN n K (Js j) la kg) ∧ CenI ws2 ∧ fr cen4 ws ws2))) args s 0 0 A) G A 7 ad wy 110 [some (.ref 0), some (.int (nI j)), some (.int (nI la)), some (.int (nI f)), some (.int (nI (dg la f))), some (.int (nI sz)), some (.int (nI (gapK (K f) (dg la f) sz)))] [] := by
        intro wy hfy hCy
        refine V_iinc_5 X dX11_passing_110 (Nat.le_of_ble_eq_true rfl) rfl (inc1 _) ?_
        refine V_goto X 38 dX11_passing_113 (by decide) ?_
        exact ih2 (k2 - 1) _ _ (by omega) ⟨sz + 1, _, by omega, by omega, rfl, hfy, hCy⟩
      have yes : okP K (Js j) la kg f sz = true → V p l e (rmm 5 0 0) s m args below meth c 0 0 (MQ below (QQ G A (pI ad (fun r ws2 => r = nI (passN n K (Js j) la kg) ∧ CenI ws2 ∧ fr cen4 ws ws2))) args s 0 0 A) G A 7 ad wz 101 [some (.ref 0), some (.int (nI j)), some (.int (nI la)), some (.int (nI f)), some (.int (nI (dg la f))), some (.int (nI sz)), some (.int (nI (gapK (K f) (dg la f) sz)))] [] := by
        intro hok
        refine V_aload_n0 X dX11_passing_101 ?_
        refine V_getf X dX11_passing_102 fX11_28 (by assumption) (by rfl) ?_
        refine V_iload_6 X dX11_passing_105 ?_
        refine V_cV1V X dX11_passing_107 kX11_282 (t_meet l G ad wz _ _ hCz _ hgl) (by assumption) (by rfl) (Nat.le_of_ble_eq_true rfl) ⟨⟨Nat.le_of_ble_eq_true rfl, Nat.le_of_ble_eq_true rfl⟩, Nat.le_of_ble_eq_true rfl, Nat.le_of_ble_eq_true rfl⟩ (fun ws2 hc => ?_)
        exact nxt ws2 (hfz.trans hc.2) (by rw [metTo_yes hok]; exact hc.1)
      refine V_aload_n0 X dX11_passing_45 ?_
      refine V_getf X dX11_passing_46 fX11_12 (by assumption) (by rfl) ?_
      refine V_iload_n3 X dX11_passing_49 ?_
      refine V_cV1R X dX11_passing_50 kX11_115 (t_Lat l G ad wz n K hLz f (by omega)) (by assumption) (by rfl) (Nat.le_of_ble_eq_true rfl) ⟨⟨Nat.le_of_ble_eq_true rfl, Nat.le_of_ble_eq_true rfl⟩, Nat.le_of_ble_eq_true rfl, Nat.le_of_ble_eq_true rfl⟩ (fun r ws2 hc => ?_)
      obtain ⟨⟨hk5, hq⟩, hw9⟩ := hc
      obtain rfl := hw9.symm
      refine V_iload_4 X dX11_passing_53 ?_
      refine V_iload_5 X dX11_passing_55 ?_
      refine VU_gap X dX11_passing_57 kX11_275_4 kX11_275_5 kX11_275_8 kX11_275_0 kX11_275_3 hk5 hq (dg_lt _ _) e10 (Nat.le_of_ble_eq_true rfl) ⟨Nat.le_of_ble_eq_true rfl, Nat.le_of_ble_eq_true rfl, Nat.le_of_ble_eq_true rfl, Nat.le_of_ble_eq_true rfl⟩ ?_
      refine V_istore_6 X dX11_passing_60 (Nat.le_of_ble_eq_true rfl) rfl ?_
      refine V_aload_n0 X dX11_passing_62 ?_
      refine V_getf X dX11_passing_63 fX11_21 (by assumption) (by rfl) ?_
      refine V_iload_n1 X dX11_passing_66 ?_
      refine V_iload_n3 X dX11_passing_67 ?_
      refine V_iload_6 X dX11_passing_68 ?_
      refine V_cV3I X dX11_passing_70 kX11_276 (t_allows l G ad wz n nj Js hMz hn j f _ hj e9 (by omega)) (by assumption) (by rfl) (Nat.le_of_ble_eq_true rfl) ⟨⟨Nat.le_of_ble_eq_true rfl, Nat.le_of_ble_eq_true rfl⟩, Nat.le_of_ble_eq_true rfl, Nat.le_of_ble_eq_true rfl⟩ (fun r ws2 hc => ?_)
      obtain ⟨rfl, hw9⟩ := hc
      obtain rfl := hw9.symm
      refine V_if_eq X 110 dX11_passing_73 (by decide) (fun h11 => ?_) (fun h11 => ?_)
      · have e11 := of_decide_eq_false (b_of0 h11)
        exact nxt wz hfz (by rw [metTo_no (by simp [okP, e11])]; exact hCz)
      · have e11 := of_decide_eq_true (b_of1 h11)
        refine V_iload_5 X dX11_passing_76 ?_
        refine V_aload_n0 X dX11_passing_78 ?_
        refine V_getf X dX11_passing_79 fX11_66 (by assumption) (by rfl) ?_
        refine V_iload_n3 X dX11_passing_82 ?_
        refine V_cS2I X dX11_passing_83 kX11_262 (t_sizeIn l G ad wz hkP kg f (by omega) (by omega)) (Nat.le_of_ble_eq_true rfl) ⟨⟨Nat.le_of_ble_eq_true rfl, Nat.le_of_ble_eq_true rfl⟩, Nat.le_of_ble_eq_true rfl, Nat.le_of_ble_eq_true rfl⟩ (fun r ws2 hc => ?_)
        obtain ⟨rfl, hw9⟩ := hc
        obtain rfl := hw9.symm
        refine V_icmp_eq X 101 dX11_passing_86 (by decide) (fun h12 => ?_) (fun h12 => ?_)
        · have e12 : sz = dg kg f := (nI_eq (by omega) (Nat.lt_trans (dg_lt _ _) (by decide))).mp h12
          exact yes (by simp [okP, e11, ← e12])
        · have e12 : ¬ sz = dg kg f := fun q => h12 (by rw [q])
          refine V_aload_n0 X dX11_passing_89 ?_
          refine V_getf X dX11_passing_90 fX11_21 (by assumption) (by rfl) ?_
          refine V_iload_n1 X dX11_passing_93 ?_
          refine V_iload_n3 X dX11_passing_94 ?_
          refine V_cV2I X dX11_passing_95 kX11_279 (t_binds l G ad wz n nj Js hMz hn j f hj e9) (by assumption) (by rfl) (Nat.le_of_ble_eq_true rfl) ⟨⟨Nat.le_of_ble_eq_true rfl, Nat.le_of_ble_eq_true rfl⟩, Nat.le_of_ble_eq_true rfl, Nat.le_of_ble_eq_true rfl⟩ (fun r ws2 hc => ?_)
          obtain ⟨rfl, hw9⟩ := hc
          obtain rfl := hw9.symm
          refine V_if_ne X 110 dX11_passing_98 (by decide) (fun h13 => ?_) (fun h13 => ?_)
          · have e13 := b_of1 h13
            exact nxt wz hfz (by rw [metTo_no (by simp [okP, e12, e13])]; exact hCz)
          · have e13 := b_of0 h13
            exact yes (by simp [okP, e11, e13])
set_option maxHeartbeats 2000000 in
theorem t_within (l : Launch) (G : GX) (ad : Nat → Nat) (ws : List CE) (n : Nat) (K : Nat → Nat) (kg mm : Nat) (Ln : Nat → Nat) (hO : ObjAt ws kg) (hL : LooksAt ws n K) (hC : CenI ws) (hR : RowN ws 23 24 60 mm Ln) (hkP : ad kP = G.2.2.2) (hm : 0 < mm) (la : Nat) (hla : Ln (mm - 1) = la) (hLn : la < 10000) (yr : Nat) (hyr : yr < 1000) : Ct l G yX11_within cX11_within 6 (some .int) 5 0 0 ad ws [.ref 0, .int (nI yr)] (pI ad (fun r ws2 => r = nI (withinN n K la yr) ∧ CenI ws2 ∧ fr cen4 ws ws2)) := by
  refine Ct.of [some (.ref 0), some (.int (nI yr)), none, none, none, none] (by decide +kernel) (Nat.le_of_ble_eq_true rfl) rfl ?_
  intro p e s m args below meth c A X
  have hn := hL.1
  obtain ⟨por0, hC0⟩ := hC
  obtain ⟨tr, kk, km, kp, kh, z0⟩ := hO
  obtain ⟨fl, hR1, hR2⟩ := hR
  have z23 := hR1.1
  have hm60 := hR1.2.2.1
  refine V_aload_n0 X dX11_within_0 ?_
  refine V_getf X dX11_within_1 fX11_57 (by assumption) (by rfl) ?_
  refine V_cV0I X dX11_within_4 kX11_138 (t_Rlast l G ad ws 23 24 60 mm fl hR1 hm) (by assumption) (by rfl) (Nat.le_of_ble_eq_true rfl) ⟨⟨Nat.le_of_ble_eq_true rfl, Nat.le_of_ble_eq_true rfl⟩, Nat.le_of_ble_eq_true rfl, Nat.le_of_ble_eq_true rfl⟩ (fun r ws2 hc => ?_)
  obtain ⟨rfl, hw9⟩ := hc
  obtain rfl := hw9.symm
  rw [hR2 _ (by omega), hla]
  refine V_istore_n2 X dX11_within_7 (Nat.le_of_ble_eq_true rfl) rfl ?_
  refine V_aload_n0 X dX11_within_8 ?_
  refine V_getf X dX11_within_9 fX11_28 (by assumption) (by rfl) ?_
  have z9 := hC0.choose_spec.choose_spec.choose_spec.choose_spec.choose_spec.2.1
  refine V_cV0V X dX11_within_12 kX11_272 (t_open l G ad ws (fun _ => 0) por0 hC0) (by assumption) (by rfl) (Nat.le_of_ble_eq_true rfl) ⟨⟨Nat.le_of_ble_eq_true rfl, Nat.le_of_ble_eq_true rfl⟩, Nat.le_of_ble_eq_true rfl, Nat.le_of_ble_eq_true rfl⟩ (fun ws2 hc => ?_)
  obtain ⟨hC1, hf1⟩ := hc
  generalize ws2 = wa at hC1 hf1 ⊢
  refine V_iconstE X (nI 0) dX11_within_15 (by decide +kernel) ?_
  refine V_istore_n3 X dX11_within_16 (Nat.le_of_ble_eq_true rfl) rfl ?_
  refine V_loop (fun k wk lv2 => ∃ (f : Nat) (w4 w5 : Option Value), f + k = n ∧ lv2 = [some (.ref 0), some (.int (nI yr)), some (.int (nI la)), some (.int (nI f)), w4, w5] ∧ noL lv2 5 = true ∧ fr cen4 ws wk ∧ CensusAt wk (fun _ => 0) (porTo (metW K la) f)) n ⟨0, none, none, by omega, rfl, by rfl, hf1, hC1⟩ ?_
  rintro k wk _ ⟨f, w4, w5, hf, rfl, hno, hfk, hCk⟩ ih
  have hLk := hL.fr hfk (by decide)
  have y0 := hfk.get (by decide) z0
  have y1 := hLk.2.1
  have y9 := hCk.choose_spec.choose_spec.choose_spec.choose_spec.choose_spec.2.1
  refine V_iload_n3 X dX11_within_17 ?_
  refine V_aload_n0 X dX11_within_18 ?_
  refine V_getf X dX11_within_19 fX11_12 (by assumption) (by rfl) ?_
  refine V_cV0I X dX11_within_22 kX11_122 (t_Lsize l G ad wk n K hLk) (by assumption) (by rfl) (Nat.le_of_ble_eq_true rfl) ⟨⟨Nat.le_of_ble_eq_true rfl, Nat.le_of_ble_eq_true rfl⟩, Nat.le_of_ble_eq_true rfl, Nat.le_of_ble_eq_true rfl⟩ (fun r ws2 hc => ?_)
  obtain ⟨rfl, hw9⟩ := hc
  obtain rfl := hw9.symm
  refine V_icmp_ge X 86 dX11_within_25 (by decide) (fun h => ?_) (fun h => ?_)
  · have e9 : f = n := by have := (nI_leI (by omega) (by omega)).mp h; omega
    refine V_aload_n0 X dX11_within_86 ?_
    refine V_getf X dX11_within_87 fX11_28 (by assumption) (by rfl) ?_
    refine V_iload_n1 X dX11_within_90 ?_
    refine V_cV1I X dX11_within_91 kX11_291 (t_upTo l G ad wk _ _ hCk yr hyr) (by assumption) (by rfl) (Nat.le_of_ble_eq_true rfl) ⟨⟨Nat.le_of_ble_eq_true rfl, Nat.le_of_ble_eq_true rfl⟩, Nat.le_of_ble_eq_true rfl, Nat.le_of_ble_eq_true rfl⟩ (fun r ws2 hc => ?_)
    obtain ⟨rfl, hw9⟩ := hc
    obtain rfl := hw9.symm
    exact V_iret X dX11_within_94 ⟨by rw [e9]; rfl, ⟨_, hCk⟩, hfk⟩
  · have e9 : f < n := by
      rcases Nat.lt_or_ge f n with q9 | q9
      · exact q9
      · exact absurd ((nI_leI (by omega) (by omega)).mpr q9) h
    refine V_iload_n2 X dX11_within_28 ?_
    refine V_iload_n3 X dX11_within_29 ?_
    refine V_cS2I X dX11_within_30 kX11_262 (t_sizeIn l G ad wk hkP la f (by omega) (by omega)) (Nat.le_of_ble_eq_true rfl) ⟨⟨Nat.le_of_ble_eq_true rfl, Nat.le_of_ble_eq_true rfl⟩, Nat.le_of_ble_eq_true rfl, Nat.le_of_ble_eq_true rfl⟩ (fun r ws2 hc => ?_)
    obtain ⟨rfl, hw9⟩ := hc
    obtain rfl := hw9.symm
    refine V_istore_4 X dX11_within_33 (Nat.le_of_ble_eq_true rfl) rfl ?_
    refine V_iconstE X (nI 0) dX11_within_35 (by decide +kernel) ?_
    refine V_istore_5 X dX11_within_36 (Nat.le_of_ble_eq_true rfl) rfl ?_
    refine V_loop (fun k2 wz lv2 => ∃ (sz : Nat), sz ≤ 10 ∧ sz + k2 = 10 ∧ lv2 = [some (.ref 0), some (.int (nI yr)), some (.int (nI la)), some (.int (nI f)), some (.int (nI (dg la f))), some (.int (nI sz))] ∧ fr cen4 ws wz ∧ CensusAt wz (metTo (fun _ => true) (fun s => stepK (K f) s (dg la f)) sz) (porTo (metW K la) f)) 10 ⟨0, by omega, by omega, rfl, hfk, hCk⟩ ?_
    rintro k2 wz _ ⟨sz, hs, hsk, rfl, hfz, hCz⟩ ih2
    have hLz := hL.fr hfz (by decide)
    have x0 := hfz.get (by decide) z0
    have x1 := hLz.2.1
    have x9 := hCz.choose_spec.choose_spec.choose_spec.choose_spec.choose_spec.2.1
    refine V_iload_5 X dX11_within_38 ?_
    refine V_bipushE X (nI 10) dX11_within_40 (by decide +kernel) ?_
    refine V_icmp_ge X 73 dX11_within_42 (by decide) (fun h10 => ?_) (fun h10 => ?_)
    · have e10 : sz = 10 := by have := (nI_leI (a := 10) (b := sz) (by omega) (by omega)).mp h10; omega
      subst e10
      refine V_aload_n0 X dX11_within_73 ?_
      refine V_getf X dX11_within_74 fX11_28 (by assumption) (by rfl) ?_
      refine V_cV0V X dX11_within_77 kX11_285 (t_close l G ad wz _ _ hCz) (by assumption) (by rfl) (Nat.le_of_ble_eq_true rfl) ⟨⟨Nat.le_of_ble_eq_true rfl, Nat.le_of_ble_eq_true rfl⟩, Nat.le_of_ble_eq_true rfl, Nat.le_of_ble_eq_true rfl⟩ (fun ws2 hc => ?_)
      obtain ⟨hC5, hf5⟩ := hc
      refine V_iinc_3 X dX11_within_80 (Nat.le_of_ble_eq_true rfl) rfl (inc1 _) ?_
      refine V_goto X 17 dX11_within_83 (by decide) ?_
      exact ih (k - 1) _ _ (by omega) ⟨f + 1, _, _, by omega, rfl, by rfl, hfz.trans hf5, hC5⟩
    · have e10 : sz < 10 := by
        rcases Nat.lt_or_ge sz 10 with q9 | q9
        · exact q9
        · exact absurd ((nI_leI (a := 10) (b := sz) (by omega) (by omega)).mpr q9) h10
      have hgl := stepK_lt (k := K f) e10 (dg_lt la f)
      refine V_aload_n0 X dX11_within_45 ?_
      refine V_getf X dX11_within_46 fX11_28 (by assumption) (by rfl) ?_
      refine V_aload_n0 X dX11_within_49 ?_
      refine V_getf X dX11_within_50 fX11_12 (by assumption) (by rfl) ?_
      refine V_iload_n3 X dX11_within_53 ?_
      refine V_cV1R X dX11_within_54 kX11_115 (t_Lat l G ad wz n K hLz f (by omega)) (by assumption) (by rfl) (Nat.le_of_ble_eq_true rfl) ⟨⟨Nat.le_of_ble_eq_true rfl, Nat.le_of_ble_eq_true rfl⟩, Nat.le_of_ble_eq_true rfl, Nat.le_of_ble_eq_true rfl⟩ (fun r ws2 hc => ?_)
      obtain ⟨⟨hk5, hq⟩, hw9⟩ := hc
      obtain rfl := hw9.symm
      refine V_iload_5 X dX11_within_57 ?_
      refine V_iload_4 X dX11_within_59 ?_
      refine VU_steps X dX11_within_61 kX11_294_4 kX11_294_5 kX11_294_8 kX11_294_0 kX11_294_3 hk5 hq e10 (dg_lt _ _) (Nat.le_of_ble_eq_true rfl) ⟨Nat.le_of_ble_eq_true rfl, Nat.le_of_ble_eq_true rfl, Nat.le_of_ble_eq_true rfl, Nat.le_of_ble_eq_true rfl⟩ ?_
      refine V_cV1V X dX11_within_64 kX11_282 (t_meet l G ad wz _ _ hCz _ hgl) (by assumption) (by rfl) (Nat.le_of_ble_eq_true rfl) ⟨⟨Nat.le_of_ble_eq_true rfl, Nat.le_of_ble_eq_true rfl⟩, Nat.le_of_ble_eq_true rfl, Nat.le_of_ble_eq_true rfl⟩ (fun ws2 hc => ?_)
      refine V_iinc_5 X dX11_within_67 (Nat.le_of_ble_eq_true rfl) rfl (inc1 _) ?_
      refine V_goto X 38 dX11_within_70 (by decide) ?_
      exact ih2 (k2 - 1) _ _ (by omega) ⟨sz + 1, by omega, by omega, rfl, hfz.trans hc.2, by rw [metTo_yes rfl]; exact hc.1⟩
