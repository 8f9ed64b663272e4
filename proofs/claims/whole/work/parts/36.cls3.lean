/-! strictest, takenForKing -/
def strictTo (pn : Nat → Nat) : Nat → Option (Nat × Nat)
  | 0 => none
  | j + 1 => match strictTo pn j with
    | none => some (j, pn j)
    | some q => if pn j < q.2 then some (j, pn j) else some q
def fstI (o : Option (Nat × Nat)) : Int32 := match o with
  | none => (-1)
  | some q => nI q.1
def sndN (o : Option (Nat × Nat)) : Nat := match o with
  | none => 0
  | some q => q.2
theorem strictTo_lt (pn : Nat → Nat) : ∀ j q, strictTo pn j = some q → q.1 < j ∧ q.2 = pn q.1
  | 0, q, h => by cases h
  | j + 1, q, h => by
    rw [strictTo] at h
    cases hs : strictTo pn j with
    | none => rw [hs] at h; cases h; exact ⟨by omega, rfl⟩
    | some q2 =>
      rw [hs] at h
      simp only at h
      have := strictTo_lt pn j q2 hs
      split at h
      · cases h; exact ⟨by omega, rfl⟩
      · cases h; exact ⟨by omega, this.2⟩
set_option maxHeartbeats 2000000 in
theorem t_strictest (l : Launch) (G : GX) (ad : Nat → Nat) (ws : List CE) (n nj : Nat) (K : Nat → Nat) (Js : Nat → JD) (kg mm : Nat) (Ln : Nat → Nat) (hO : ObjAt ws kg) (hL : LooksAt ws n K) (hM : MarksAt ws n nj Js) (hC : CenI ws) (hR : RowN ws 23 24 60 mm Ln) (hkP : ad kP = G.2.2.2) (hk : kg < 10000) (hm : 0 < mm) (la : Nat) (hla : Ln (mm - 1) = la) (hLn : la < 10000) (hpn : ∀ j, j < nj → passN n K (Js j) la kg < 2147483648) : Ct l G yX11_strictest cX11_strictest 5 (some .int) 6 0 0 ad ws [.ref 0] (pI ad (fun r ws2 => r = fstI (strictTo (fun j => passN n K (Js j) la kg) nj) ∧ CenI ws2 ∧ fr cen4 ws ws2)) := by
  refine Ct.of [some (.ref 0), none, none, none, none] (by decide +kernel) (Nat.le_of_ble_eq_true rfl) rfl ?_
  intro p e s m args below meth c A X
  have hnj := hM.2.1
  have hO0 := hO
  obtain ⟨tr, kk, km, kp, kh, z0⟩ := hO
  refine V_iconstE X (-1) dX11_strictest_0 (by decide +kernel) ?_
  refine V_istore_n1 X dX11_strictest_1 (Nat.le_of_ble_eq_true rfl) rfl ?_
  refine V_iconstE X (nI 0) dX11_strictest_2 (by decide +kernel) ?_
  refine V_istore_n2 X dX11_strictest_3 (Nat.le_of_ble_eq_true rfl) rfl ?_
  refine V_iconstE X (nI 0) dX11_strictest_4 (by decide +kernel) ?_
  refine V_istore_n3 X dX11_strictest_5 (Nat.le_of_ble_eq_true rfl) rfl ?_
  refine V_loop (fun k wk lv2 => ∃ (j : Nat) (w4 : Option Value), j + k = nj ∧ lv2 = [some (.ref 0), some (.int (fstI (strictTo (fun j => passN n K (Js j) la kg) j))), some (.int (nI (sndN (strictTo (fun j => passN n K (Js j) la kg) j)))), some (.int (nI j)), w4] ∧ fr cen4 ws wk ∧ CenI wk) nj ⟨0, none, by omega, rfl, fr.rfl, hC⟩ ?_
  rintro k wk _ ⟨j, w4, hj, rfl, hfk, hCk⟩ ih
  have hMk := hM.fr hfk (by decide) (by decide)
  have hLk := hL.fr hfk (by decide)
  have hOk := hO0.fr hfk (by decide)
  have hRk := hR.fr hfk (by decide) (by decide)
  have y0 := hfk.get (by decide) z0
  have y4 := hMk.1
  refine V_iload_n3 X dX11_strictest_6 ?_
  refine V_aload_n0 X dX11_strictest_7 ?_
  refine V_getf X dX11_strictest_8 fX11_21 (by assumption) (by rfl) ?_
  refine V_cV0I X dX11_strictest_11 kX11_239 (t_Bsize l G ad wk n nj Js hMk) (by assumption) (by rfl) (Nat.le_of_ble_eq_true rfl) ⟨⟨Nat.le_of_ble_eq_true rfl, Nat.le_of_ble_eq_true rfl⟩, Nat.le_of_ble_eq_true rfl, Nat.le_of_ble_eq_true rfl⟩ (fun r ws2 hc => ?_)
  obtain ⟨rfl, hw9⟩ := hc
  obtain rfl := hw9.symm
  refine V_icmp_ge X 46 dX11_strictest_14 (by decide) (fun h => ?_) (fun h => ?_)
  · have e9 : j = nj := by have := (nI_leI (by omega) (by omega)).mp h; omega
    refine V_iload_n1 X dX11_strictest_46 ?_
    exact V_iret X dX11_strictest_47 ⟨by rw [e9], hCk, hfk⟩
  · have e9 : j < nj := by
      rcases Nat.lt_or_ge j nj with q9 | q9
      · exact q9
      · exact absurd ((nI_leI (by omega) (by omega)).mpr q9) h
    refine V_aload_n0 X dX11_strictest_17 ?_
    refine V_iload_n3 X dX11_strictest_18 ?_
    refine V_cV1I X dX11_strictest_19 kX11_269 (t_passing l G ad wk n nj K Js kg mm Ln hOk hLk hMk hCk hRk hkP hk hm la hla hLn j e9) (by assumption) (by rfl) (Nat.le_of_ble_eq_true rfl) ⟨⟨Nat.le_of_ble_eq_true rfl, Nat.le_of_ble_eq_true rfl⟩, Nat.le_of_ble_eq_true rfl, Nat.le_of_ble_eq_true rfl⟩ (fun r ws2 hc => ?_)
    obtain ⟨rfl, hC5, hf5⟩ := hc
    have hb := hpn j e9
    have take : strictTo (fun j => passN n K (Js j) la kg) (j + 1) = some (j, passN n K (Js j) la kg) → V p l e (rmm 6 0 0) s m args below meth c 0 0 (MQ below (QQ G A (pI ad (fun r ws2 => r = fstI (strictTo (fun j => passN n K (Js j) la kg) nj) ∧ CenI ws2 ∧ fr cen4 ws ws2))) args s 0 0 A) G A 5 ad ws2 35 [some (.ref 0), some (.int (fstI (strictTo (fun j => passN n K (Js j) la kg) j))), some (.int (nI (sndN (strictTo (fun j => passN n K (Js j) la kg) j)))), some (.int (nI j)), some (.int (nI (passN n K (Js j) la kg)))] [] := by
      intro hs
      refine V_iload_n3 X dX11_strictest_35 ?_
      refine V_istore_n1 X dX11_strictest_36 (Nat.le_of_ble_eq_true rfl) rfl ?_
      refine V_iload_4 X dX11_strictest_37 ?_
      refine V_istore_n2 X dX11_strictest_39 (Nat.le_of_ble_eq_true rfl) rfl ?_
      refine V_iinc_3 X dX11_strictest_40 (Nat.le_of_ble_eq_true rfl) rfl (inc1 _) ?_
      refine V_goto X 6 dX11_strictest_43 (by decide) ?_
      exact ih (k - 1) _ _ (by omega) ⟨j + 1, _, by omega, by rw [hs]; rfl, hfk.trans hf5, hC5⟩
    refine V_istore_4 X dX11_strictest_22 (Nat.le_of_ble_eq_true rfl) rfl ?_
    refine V_iload_n1 X dX11_strictest_24 ?_
    refine V_iconstE X (-1) dX11_strictest_25 (by decide +kernel) ?_
    refine V_icmp_eq X 35 dX11_strictest_26 (by decide) (fun h6 => ?_) (fun h6 => ?_)
    · refine take ?_
      cases hs : strictTo (fun j => passN n K (Js j) la kg) j with
      | none => rw [strictTo, hs]
      | some q =>
        rw [hs] at h6
        have := strictTo_lt _ j q hs
        exact absurd h6 (nI_m1 (by omega))
    · cases hs : strictTo (fun j => passN n K (Js j) la kg) j with
      | none => rw [hs] at h6; exact absurd rfl h6
      | some q =>
        have hq := strictTo_lt _ j q hs
        have hq2 := hpn q.1 (by omega)
        refine V_iload_4 X dX11_strictest_29 ?_
        refine V_iload_n2 X dX11_strictest_31 ?_
        rw [hs] at take
        refine V_icmp_ge X 40 dX11_strictest_32 (by decide) (fun h7 => ?_) (fun h7 => ?_)
        · have e10 : ¬ passN n K (Js j) la kg < q.2 := by
            have := (nI_leI (a := q.2) (b := passN n K (Js j) la kg) (by rw [hq.2]; omega) (by omega)).mp h7
            omega
          have hs2 : strictTo (fun j => passN n K (Js j) la kg) (j + 1) = some q := by rw [strictTo, hs]; simp [e10]
          refine V_iinc_3 X dX11_strictest_40 (Nat.le_of_ble_eq_true rfl) rfl (inc1 _) ?_
          refine V_goto X 6 dX11_strictest_43 (by decide) ?_
          exact ih (k - 1) _ _ (by omega) ⟨j + 1, _, by omega, by rw [hs2], hfk.trans hf5, hC5⟩
        · have e10 : passN n K (Js j) la kg < q.2 := by
            rcases Nat.lt_or_ge (passN n K (Js j) la kg) q.2 with q9 | q9
            · exact q9
            · exact absurd ((nI_leI (a := q.2) (b := passN n K (Js j) la kg) (by rw [hq.2]; omega) (by omega)).mpr q9) h7
          exact take (by rw [strictTo, hs]; simp [e10])
/-- the gate: who so far, with how many judges, how far -/
def gateTo (nj : Nat) (jc gp : Nat → Nat) : Nat → Option (Nat × Nat × Nat)
  | 0 => none
  | i + 1 => match gateTo nj jc gp i with
    | none => if 0 < jc i ∨ nj = 0 then some (i, jc i, gp i) else none
    | some q => if (0 < jc i ∨ nj = 0) ∧ (q.2.1 < jc i ∨ (jc i = q.2.1 ∧ gp i < q.2.2)) then some (i, jc i, gp i) else some q
def g1I (o : Option (Nat × Nat × Nat)) : Int32 := match o with
  | none => (-1)
  | some q => nI q.1
def g2N (o : Option (Nat × Nat × Nat)) : Nat := match o with
  | none => 0
  | some q => q.2.1
def g3N (o : Option (Nat × Nat × Nat)) : Nat := match o with
  | none => 0
  | some q => q.2.2
theorem gateTo_at (nj : Nat) (jc gp : Nat → Nat) : ∀ i q, gateTo nj jc gp i = some q → q.1 < i ∧ q.2.1 = jc q.1 ∧ q.2.2 = gp q.1
  | 0, q, h => by cases h
  | i + 1, q, h => by
    rw [gateTo] at h
    cases hs : gateTo nj jc gp i with
    | none =>
      rw [hs] at h
      simp only at h
      split at h
      · cases h; exact ⟨by omega, rfl, rfl⟩
      · cases h
    | some q2 =>
      rw [hs] at h
      simp only at h
      have := gateTo_at nj jc gp i q2 hs
      split at h
      · cases h; exact ⟨by omega, rfl, rfl⟩
      · cases h; exact ⟨by omega, this.2⟩
set_option maxHeartbeats 2000000 in
theorem t_taken (l : Launch) (G : GX) (ad : Nat → Nat) (ws : List CE) (n nj : Nat) (K : Nat → Nat) (Js : Nat → JD) (kg mm : Nat) (Ln : Nat → Nat) (pn : Nat) (Pe : Nat → Nat) (hO : ObjAt ws kg) (hL : LooksAt ws n K) (hM : MarksAt ws n nj Js) (hB : BitsAt ws n nj Js) (hR : RowN ws 23 24 60 mm Ln) (hRp : RowN ws 25 26 6 pn Pe) (hkP : ad kP = G.2.2.2) (hk : kg < 10000) (hm : 0 < mm) (la : Nat) (hla : Ln (mm - 1) = la) (hLn : la < 10000) (hPe : ∀ i, i < pn → Pe i < 10000) : Ct l G yX11_takenForKing cX11_takenForKing 9 (some .int) 6 0 0 ad ws [.ref 0] (pI ad (fun r ws2 => r = g1I (gateTo nj (fun i => cnt (fun j => letsJ n K (Js j) la (Pe i) kg) nj) (fun i => gapP n K la (Pe i)) pn) ∧ ws2 = ws)) := by
  refine Ct.of [some (.ref 0), none, none, none, none, none, none, none, none] (by decide +kernel) (Nat.le_of_ble_eq_true rfl) rfl ?_
  intro p e s m args below meth c A X
  have hnj := hM.2.1
  have hn := hL.1
  obtain ⟨tr, kk, km, kp, kh, z0⟩ := hO
  obtain ⟨fl, hR1, hR2⟩ := hR
  obtain ⟨fp, hP1, hP2⟩ := hRp
  have z23 := hR1.1
  have z25 := hP1.1
  have z1 := hL.2.1
  have z4 := hM.1
  have hm60 := hR1.2.2.1
  have hp6 := hP1.2.2.1
  refine V_aload_n0 X dX11_takenForKing_0 ?_
  refine V_getf X dX11_takenForKing_1 fX11_57 (by assumption) (by rfl) ?_
  refine V_cV0I X dX11_takenForKing_4 kX11_138 (t_Rlast l G ad ws 23 24 60 mm fl hR1 hm) (by assumption) (by rfl) (Nat.le_of_ble_eq_true rfl) ⟨⟨Nat.le_of_ble_eq_true rfl, Nat.le_of_ble_eq_true rfl⟩, Nat.le_of_ble_eq_true rfl, Nat.le_of_ble_eq_true rfl⟩ (fun r ws2 hc => ?_)
  obtain ⟨rfl, hw9⟩ := hc
  obtain rfl := hw9.symm
  rw [hR2 _ (by omega), hla]
  refine V_istore_n1 X dX11_takenForKing_7 (Nat.le_of_ble_eq_true rfl) rfl ?_
  refine V_iconstE X (-1) dX11_takenForKing_8 (by decide +kernel) ?_
  refine V_istore_n2 X dX11_takenForKing_9 (Nat.le_of_ble_eq_true rfl) rfl ?_
  refine V_iconstE X (nI 0) dX11_takenForKing_10 (by decide +kernel) ?_
  refine V_istore_n3 X dX11_takenForKing_11 (Nat.le_of_ble_eq_true rfl) rfl ?_
  refine V_iconstE X (nI 0) dX11_takenForKing_12 (by decide +kernel) ?_
  refine V_istore_4 X dX11_takenForKing_13 (Nat.le_of_ble_eq_true rfl) rfl ?_
  refine V_iconstE X (nI 0) dX11_takenForKing_15 (by decide +kernel) ?_
  refine V_istore_5 X dX11_takenForKing_16 (Nat.le_of_ble_eq_true rfl) rfl ?_
  refine V_loopP (fun k lv2 => ∃ (i : Nat) (w6 w7 w8 : Option Value), i + k = pn ∧ lv2 = [some (.ref 0), some (.int (nI la)), some (.int (g1I (gateTo nj (fun i => cnt (fun j => letsJ n K (Js j) la (Pe i) kg) nj) (fun i => gapP n K la (Pe i)) i))), some (.int (nI (g2N (gateTo nj (fun i => cnt (fun j => letsJ n K (Js j) la (Pe i) kg) nj) (fun i => gapP n K la (Pe i)) i)))), some (.int (nI (g3N (gateTo nj (fun i => cnt (fun j => letsJ n K (Js j) la (Pe i) kg) nj) (fun i => gapP n K la (Pe i)) i)))), some (.int (nI i)), w6, w7, w8] ∧ (noL lv2 7 && noL lv2 8) = true) pn ⟨0, none, none, none, by omega, rfl, by rfl⟩ ?_
  rintro k _ ⟨i, w6, w7, w8, hi, rfl, hno⟩ ih
  simp only [Bool.and_eq_true] at hno
  generalize hjc : (fun i => cnt (fun j => letsJ n K (Js j) la (Pe i) kg) nj) = jc at ih ⊢
  generalize hgp : (fun i => gapP n K la (Pe i)) = gp at ih ⊢
  have hjcl : ∀ i, jc i ≤ 5 := fun i => by rw [← hjc]; exact Nat.le_trans (cnt_le _ nj) hnj
  have hgpl : ∀ i, gp i ≤ 36 := fun i => by rw [← hgp]; exact Nat.le_trans (gapP_le n K _ _) (by omega)
  refine V_iload_5 X dX11_takenForKing_18 ?_
  refine V_aload_n0 X dX11_takenForKing_20 ?_
  refine V_getf X dX11_takenForKing_21 fX11_60 (by assumption) (by rfl) ?_
  refine V_cV0I X dX11_takenForKing_24 kX11_154 (t_Rsize l G ad ws 25 26 6 pn fp hP1) (by assumption) (by rfl) (Nat.le_of_ble_eq_true rfl) ⟨⟨Nat.le_of_ble_eq_true rfl, Nat.le_of_ble_eq_true rfl⟩, Nat.le_of_ble_eq_true rfl, Nat.le_of_ble_eq_true rfl⟩ (fun r ws2 hc => ?_)
  obtain ⟨rfl, hw9⟩ := hc
  obtain rfl := hw9.symm
  refine V_icmp_ge X 142 dX11_takenForKing_27 (by decide) (fun h => ?_) (fun h => ?_)
  · have e9 : i = pn := by have := (nI_leI (by omega) (by omega)).mp h; omega
    refine V_iload_n2 X dX11_takenForKing_142 ?_
    exact V_iret X dX11_takenForKing_143 ⟨by rw [e9], rfl⟩
  · have e9 : i < pn := by
      rcases Nat.lt_or_ge i pn with q9 | q9
      · exact q9
      · exact absurd ((nI_leI (by omega) (by omega)).mpr q9) h
    have hPi := hPe i e9
    refine V_aload_n0 X dX11_takenForKing_30 ?_
    refine V_getf X dX11_takenForKing_31 fX11_21 (by assumption) (by rfl) ?_
    refine V_iload_n1 X dX11_takenForKing_34 ?_
    refine V_aload_n0 X dX11_takenForKing_35 ?_
    refine V_getf X dX11_takenForKing_36 fX11_60 (by assumption) (by rfl) ?_
    refine V_iload_5 X dX11_takenForKing_39 ?_
    refine V_cV1I X dX11_takenForKing_41 kX11_147 (t_Rget l G ad ws 25 26 6 pn fp hP1 _) (by assumption) (by rfl) (Nat.le_of_ble_eq_true rfl) ⟨⟨Nat.le_of_ble_eq_true rfl, Nat.le_of_ble_eq_true rfl⟩, Nat.le_of_ble_eq_true rfl, Nat.le_of_ble_eq_true rfl⟩ (fun r ws2 hc => ?_)
    obtain ⟨rfl, hw9⟩ := hc
    obtain rfl := hw9.symm
    rw [getR_nI (by omega) e9, hP2 i e9]
    refine V_aload_n0 X dX11_takenForKing_44 ?_
    refine V_getf X dX11_takenForKing_45 fX11_66 (by assumption) (by rfl) ?_
    refine V_cV3I X dX11_takenForKing_48 kX11_178 (t_willing l G ad ws n nj K Js hL hM hB la (Pe i) kg (by omega) (by omega) (by omega)) (by assumption) (by rfl) (Nat.le_of_ble_eq_true rfl) ⟨⟨Nat.le_of_ble_eq_true rfl, Nat.le_of_ble_eq_true rfl⟩, Nat.le_of_ble_eq_true rfl, Nat.le_of_ble_eq_true rfl⟩ (fun r ws2 hc => ?_)
    obtain ⟨rfl, hw9⟩ := hc
    obtain rfl := hw9.symm
    refine V_cS1I X dX11_takenForKing_51 kX11_181 (t_bc l G ad ws _) (Nat.le_of_ble_eq_true rfl) ⟨⟨Nat.le_of_ble_eq_true rfl, Nat.le_of_ble_eq_true rfl⟩, Nat.le_of_ble_eq_true rfl, Nat.le_of_ble_eq_true rfl⟩ (fun r ws2 hc => ?_)
    obtain ⟨rfl, hw9⟩ := hc
    obtain rfl := hw9.symm
    rw [bc_bits _ hnj]
    refine V_istore_6 X dX11_takenForKing_54 (Nat.le_of_ble_eq_true rfl) rfl ?_
    refine V_aload_n0 X dX11_takenForKing_56 ?_
    refine V_getf X dX11_takenForKing_57 fX11_12 (by assumption) (by rfl) ?_
    refine V_iload_n1 X dX11_takenForKing_60 ?_
    refine V_aload_n0 X dX11_takenForKing_61 ?_
    refine V_getf X dX11_takenForKing_62 fX11_60 (by assumption) (by rfl) ?_
    refine V_iload_5 X dX11_takenForKing_65 ?_
    refine V_cV1I X dX11_takenForKing_67 kX11_147 (t_Rget l G ad ws 25 26 6 pn fp hP1 _) (by assumption) (by rfl) (Nat.le_of_ble_eq_true rfl) ⟨⟨Nat.le_of_ble_eq_true rfl, Nat.le_of_ble_eq_true rfl⟩, Nat.le_of_ble_eq_true rfl, Nat.le_of_ble_eq_true rfl⟩ (fun r ws2 hc => ?_)
    obtain ⟨rfl, hw9⟩ := hc
    obtain rfl := hw9.symm
    rw [getR_nI (by omega) e9, hP2 i e9]
    refine V_cV2I X dX11_takenForKing_70 kX11_131 (t_Lgap l G ad ws n K hL hkP la (Pe i) (by omega) (by omega)) (by assumption) (by rfl) (Nat.le_of_ble_eq_true rfl) ⟨⟨Nat.le_of_ble_eq_true rfl, Nat.le_of_ble_eq_true rfl⟩, Nat.le_of_ble_eq_true rfl, Nat.le_of_ble_eq_true rfl⟩ (fun r ws2 hc => ?_)
    obtain ⟨rfl, hw9⟩ := hc
    obtain rfl := hw9.symm
    have ej : cnt (fun j => letsJ n K (Js j) la (Pe i) kg) nj = jc i := by rw [← hjc]
    have eg : gapP n K la (Pe i) = gp i := by rw [← hgp]
    rw [ej, eg]
    have hj5 := hjcl i
    have hg5 := hgpl i
    have skip : ∀ (w8 : Option Value), gateTo nj jc gp (i + 1) = gateTo nj jc gp i → V p l e (rmm 6 0 0) s m args below meth c 0 0 (MQ below (QQ G A (pI ad (fun r ws2 => r = g1I (gateTo nj jc gp pn) ∧ ws2 = ws))) args s 0 0 A) G A 9 ad ws 136 [some (.ref 0), some (.int (nI la)), some (.int (g1I (gateTo nj jc gp i))), some (.int (nI (g2N (gateTo nj jc gp i)))), some (.int (nI (g3N (gateTo nj jc gp i)))), some (.int (nI i)), some (.int (nI (jc i))), some (.int (nI (gp i))), w8] [] := by
      intro w8 hs
      refine V_iinc_5 X dX11_takenForKing_136 (Nat.le_of_ble_eq_true rfl) rfl (inc1 _) ?_
      refine V_goto X 18 dX11_takenForKing_139 (by decide) ?_
      exact ih (k - 1) _ (by omega) ⟨i + 1, _, _, w8, by omega, by rw [hs], by rfl⟩
    have take : ∀ (w8 : Option Value), gateTo nj jc gp (i + 1) = some (i, jc i, gp i) → V p l e (rmm 6 0 0) s m args below meth c 0 0 (MQ below (QQ G A (pI ad (fun r ws2 => r = g1I (gateTo nj jc gp pn) ∧ ws2 = ws))) args s 0 0 A) G A 9 ad ws 126 [some (.ref 0), some (.int (nI la)), some (.int (g1I (gateTo nj jc gp i))), some (.int (nI (g2N (gateTo nj jc gp i)))), some (.int (nI (g3N (gateTo nj jc gp i)))), some (.int (nI i)), some (.int (nI (jc i))), some (.int (nI (gp i))), w8] [] := by
      intro w8 hs
      refine V_iload_5 X dX11_takenForKing_126 ?_
      refine V_istore_n2 X dX11_takenForKing_128 (Nat.le_of_ble_eq_true rfl) rfl ?_
      refine V_iload_6 X dX11_takenForKing_129 ?_
      refine V_istore_n3 X dX11_takenForKing_131 (Nat.le_of_ble_eq_true rfl) rfl ?_
      refine V_iload_7 X dX11_takenForKing_132 ?_
      refine V_istore_4 X dX11_takenForKing_134 (Nat.le_of_ble_eq_true rfl) rfl ?_
      refine V_iinc_5 X dX11_takenForKing_136 (Nat.le_of_ble_eq_true rfl) rfl (inc1 _) ?_
      refine V_goto X 18 dX11_takenForKing_139 (by decide) ?_
      exact ih (k - 1) _ (by omega) ⟨i + 1, _, _, w8, by omega, by rw [hs]; rfl, by rfl⟩
    have may : ∀ (b : Bool), b = decide (0 < jc i ∨ nj = 0) → V p l e (rmm 6 0 0) s m args below meth c 0 0 (MQ below (QQ G A (pI ad (fun r ws2 => r = g1I (gateTo nj jc gp pn) ∧ ws2 = ws))) args s 0 0 A) G A 9 ad ws 95 [some (.ref 0), some (.int (nI la)), some (.int (g1I (gateTo nj jc gp i))), some (.int (nI (g2N (gateTo nj jc gp i)))), some (.int (nI (g3N (gateTo nj jc gp i)))), some (.int (nI i)), some (.int (nI (jc i))), some (.int (nI (gp i))), w8] [.int (bI b)] := by
      intro b hb
      refine V_istore_8 X dX11_takenForKing_95 (Nat.le_of_ble_eq_true rfl) rfl ?_
      refine V_iload_8 X dX11_takenForKing_97 ?_
      refine V_if_eq X 136 dX11_takenForKing_99 (by decide) (fun h6 => ?_) (fun h6 => ?_)
      · have e10 := b_of0 h6
        have e11 : ¬ (0 < jc i ∨ nj = 0) := of_decide_eq_false (by rw [← hb, e10])
        refine skip _ ?_
        cases hs : gateTo nj jc gp i with
        | none => rw [gateTo, hs]; simp only; rw [if_neg e11]
        | some q => rw [gateTo, hs]; simp only; rw [if_neg (fun q9 => e11 q9.1)]
      · have e10 := b_of1 h6
        have e11 : 0 < jc i ∨ nj = 0 := of_decide_eq_true (by rw [← hb, e10])
        refine V_iload_n2 X dX11_takenForKing_102 ?_
        refine V_iconstE X (-1) dX11_takenForKing_103 (by decide +kernel) ?_
        cases hs : gateTo nj jc gp i with
        | none =>
          refine V_icmp_eq X 126 dX11_takenForKing_104 (by decide) (fun h7 => ?_) (fun h7 => ?_)
          · rw [hs] at take
            exact take _ (by rw [gateTo, hs]; simp only; rw [if_pos e11])
          · exact absurd rfl h7
        | some q =>
          have hq := gateTo_at nj jc gp i q hs
          have hq2 := hjcl q.1
          have hq3 := hgpl q.1
          rw [hs] at take skip
          refine V_icmp_eq X 126 dX11_takenForKing_104 (by decide) (fun h7 => ?_) (fun h7 => ?_)
          · exact absurd h7 (nI_m1 (by show q.1 < 10000; omega))
          · refine V_iload_6 X dX11_takenForKing_107 ?_
            refine V_iload_n3 X dX11_takenForKing_109 ?_
            refine V_icmp_gt X 126 dX11_takenForKing_110 (by decide) (fun h8 => ?_) (fun h8 => ?_)
            · have e12 : q.2.1 < jc i := (nI_ltI (by omega) (by omega)).mp h8
              exact take _ (by rw [gateTo, hs]; simp only; rw [if_pos ⟨e11, Or.inl e12⟩])
            · have e12 : ¬ q.2.1 < jc i := fun q9 => h8 ((nI_ltI (a := q.2.1) (by omega) (by omega)).mpr q9)
              refine V_iload_6 X dX11_takenForKing_113 ?_
              refine V_iload_n3 X dX11_takenForKing_115 ?_
              refine V_icmp_ne X 136 dX11_takenForKing_116 (by decide) (fun h9 => ?_) (fun h9 => ?_)
              · have e13 : ¬ jc i = q.2.1 := fun q9 => h9 (by rw [q9]; rfl)
                exact skip _ (by rw [gateTo, hs]; simp only; rw [if_neg (fun q9 => q9.2.elim e12 (fun q8 => e13 q8.1))])
              · have e13 : jc i = q.2.1 := (nI_eq (by omega) (by omega)).mp h9
                refine V_iload_7 X dX11_takenForKing_119 ?_
                refine V_iload_4 X dX11_takenForKing_121 ?_
                refine V_icmp_ge X 136 dX11_takenForKing_123 (by decide) (fun h10 => ?_) (fun h10 => ?_)
                · have e14 : ¬ gp i < q.2.2 := by have := (nI_leI (a := q.2.2) (by omega) (by omega)).mp h10; omega
                  exact skip _ (by rw [gateTo, hs]; simp only; rw [if_neg (fun q9 => q9.2.elim e12 (fun q8 => e14 q8.2))])
                · have e14 : gp i < q.2.2 := by
                    rcases Nat.lt_or_ge (gp i) q.2.2 with q9 | q9
                    · exact q9
                    · exact absurd ((nI_leI (a := q.2.2) (by omega) (by omega)).mpr q9) h10
                  exact take _ (by rw [gateTo, hs]; simp only; rw [if_pos ⟨e11, Or.inr ⟨e13, e14⟩⟩])
    refine V_istore_7 X dX11_takenForKing_73 (Nat.le_of_ble_eq_true rfl) rfl ?_
    refine V_iload_6 X dX11_takenForKing_75 ?_
    refine V_if_gt X 90 dX11_takenForKing_77 (by decide) (fun h6 => ?_) (fun h6 => ?_)
    · have e10 : 0 < jc i := by
        rcases Nat.eq_zero_or_pos (jc i) with q9 | q9
        · rw [q9] at h6; exact absurd h6 (by decide +kernel)
        · exact q9
      refine V_iconstE X (nI 1) dX11_takenForKing_90 (by decide +kernel) ?_
      refine V_goto X 95 dX11_takenForKing_91 (by decide) ?_
      exact may true (by rw [decide_eq_true (Or.inl e10)])
    · have e10 : ¬ 0 < jc i := fun q9 => h6 (by have := nI_lt q9 (show jc i < 2 ^ 31 by omega); exact this)
      refine V_aload_n0 X dX11_takenForKing_80 ?_
      refine V_getf X dX11_takenForKing_81 fX11_21 (by assumption) (by rfl) ?_
      refine V_cV0I X dX11_takenForKing_84 kX11_239 (t_Bsize l G ad ws n nj Js hM) (by assumption) (by rfl) (Nat.le_of_ble_eq_true rfl) ⟨⟨Nat.le_of_ble_eq_true rfl, Nat.le_of_ble_eq_true rfl⟩, Nat.le_of_ble_eq_true rfl, Nat.le_of_ble_eq_true rfl⟩ (fun r ws2 hc => ?_)
      obtain ⟨rfl, hw9⟩ := hc
      obtain rfl := hw9.symm
      refine V_if_ne X 94 dX11_takenForKing_87 (by decide) (fun h7 => ?_) (fun h7 => ?_)
      · have e11 : ¬ nj = 0 := fun q9 => h7 (by rw [q9]; rfl)
        refine V_iconstE X (nI 0) dX11_takenForKing_94 (by decide +kernel) ?_
        exact may false (by rw [decide_eq_false (fun q9 => q9.elim e10 e11)])
      · have e11 : nj = 0 := (nI_eq (a := nj) (b := 0) (by omega) (by omega)).mp h7
        refine V_iconstE X (nI 1) dX11_takenForKing_90 (by decide +kernel) ?_
        refine V_goto X 95 dX11_takenForKing_91 (by decide) ?_
        exact may true (by rw [decide_eq_true (Or.inr e11)])
/-! copies -/
theorem lN_and (a b : Nat) : lN a &&& lN b = lN (a &&& b) := by
  apply Int64.toBitVec_inj.1
  show BitVec.ofNat 64 a &&& BitVec.ofNat 64 b = BitVec.ofNat 64 (a &&& b)
  apply BitVec.eq_of_getLsbD_eq
  intro i hi
  simp [hi]
def nxN (s : Nat) : Nat := (1103515245 * s + 12345) % 2147483648
theorem nxN_lt (s : Nat) : nxN s < 2147483648 := Nat.mod_lt _ (by decide)
theorem i64_nx {s : Nat} (hs : s < 2147483648) : ((1103515245 * (nI s).toInt64 + 12345) &&& 2147483647 : Int64).toInt32 = nI (nxN s) := by
  rw [nI_l (by omega), show (1103515245 : Int64) = lN 1103515245 by decide +kernel, show (12345 : Int64) = lN 12345 by decide +kernel, show (2147483647 : Int64) = lN 2147483647 by decide +kernel, lN_mul, lN_add, lN_and, lN_i]
  have h := Nat.and_two_pow_sub_one_eq_mod (1103515245 * s + 12345) 31
  have h2 : (2 : Nat) ^ 31 - 1 = 2147483647 := by decide
  have h3 : (2 : Nat) ^ 31 = 2147483648 := by decide
  rw [h2, h3] at h
  rw [h]
  rfl
theorem t_nextSeed (l : Launch) (G : GX) (ad : Nat → Nat) (ws : List CE) (s0 : Nat) (hs : s0 < 2147483648) : Ct l G yX11_nextSeed cX11_nextSeed 1 (some .int) 0 0 0 ad ws [.int (nI s0)] (pI ad (fun r ws2 => r = nI (nxN s0) ∧ ws2 = ws)) := by
  refine Ct.of [some (.int (nI s0))] (by decide +kernel) (Nat.le_of_ble_eq_true rfl) rfl ?_
  intro p e s m args below meth c A X
  refine V_ldc2 X dX11_nextSeed_0 w_678 ?_
  refine V_iload_n0 X dX11_nextSeed_3 ?_
  refine V_i2l X dX11_nextSeed_4 ?_
  refine V_lmul X dX11_nextSeed_5 ?_
  refine V_ldc2 X dX11_nextSeed_6 w_679 ?_
  refine V_ladd X dX11_nextSeed_9 ?_
  refine V_ldc2 X dX11_nextSeed_10 w_680 ?_
  refine V_land X dX11_nextSeed_13 ?_
  refine V_l2i X dX11_nextSeed_14 ?_
  exact V_iret X dX11_nextSeed_15 ⟨i64_nx hs, rfl⟩
theorem t_drawn (l : Launch) (G : GX) (ad : Nat → Nat) (ws : List CE) (s0 o0 : Nat) (hs : s0 < 2147483648) (ho : 0 < o0) (ho2 : o0 < 1000) : Ct l G yX11_drawn cX11_drawn 2 (some .int) 0 0 0 ad ws [.int (nI s0), .int (nI o0)] (pI ad (fun r ws2 => r = nI (s0 / 65536 % o0) ∧ ws2 = ws)) := by
  refine Ct.of [some (.int (nI s0)), some (.int (nI o0))] (by decide +kernel) (Nat.le_of_ble_eq_true rfl) rfl ?_
  intro p e s m args below meth c A X
  refine V_iload_n1 X dX11_drawn_0 ?_
  refine V_if_le X 14 dX11_drawn_1 (by decide) (fun h => ?_) (fun h => ?_)
  · exact absurd h (nI_nle ho (by omega))
  · refine V_iload_n0 X dX11_drawn_4 ?_
    refine V_ldcw X dX11_drawn_5 w_684 ?_
    refine V_idiv X dX11_drawn_8 (by decide +kernel) ?_
    rw [show (65536 : Int32) = nI 65536 by decide +kernel, pk_div (by omega) (by decide) (by decide)]
    refine V_iload_n1 X dX11_drawn_9 ?_
    refine V_irem X dX11_drawn_10 (nI_ne0 ho (by omega)) ?_
    refine V_goto X 15 dX11_drawn_11 (by decide) ?_
    have h2 : s0 / 65536 < 2 ^ 31 := by omega
    exact V_iret X dX11_drawn_15 ⟨pk_rem h2 ho (by omega), rfl⟩
abbrev CS4 : Type := Nat × Nat × Nat × Nat
def copStep (n : Nat) (K : Nat → Nat) (nj : Nat) (Js : Nat → JD) (q : CS4) : CS4 := match slipP K q.1 (nxN q.2.2.2 / 65536 % n) (decide (nxN (nxN q.2.2.2) / 65536 % 2 = 1)) with
  | none => (q.1, agedP n K q.2.1, q.2.2.1, nxN (nxN q.2.2.2))
  | some x => if agreeP n K nj Js q.1 x (agedP n K q.2.1) then (x, agedP n K q.2.1, q.2.2.1 + 1, nxN (nxN q.2.2.2)) else (q.1, agedP n K q.2.1, q.2.2.1, nxN (nxN q.2.2.2))
def copTo (n : Nat) (K : Nat → Nat) (nj : Nat) (Js : Nat → JD) (q : CS4) : Nat → CS4
  | 0 => q
  | y + 1 => copStep n K nj Js (copTo n K nj Js q y)
def copI (n : Nat) (K : Nat → Nat) (q : CS4) (what : Nat) : Int32 := if what = 0 then nI q.1 else if what = 1 then nI (gapP n K q.1 q.2.1) else if what = 2 then nI q.2.2.1 else nI q.2.2.2
set_option maxHeartbeats 2000000 in
theorem t_copied (l : Launch) (G : GX) (ad : Nat → Nat) (ws : List CE) (n nj : Nat) (K : Nat → Nat) (Js : Nat → JD) (kg mm : Nat) (Ln : Nat → Nat) (hO : ObjAt ws kg) (hL : LooksAt ws n K) (hM : MarksAt ws n nj Js) (hB : BitsAt ws n nj Js) (hR : RowN ws 23 24 60 mm Ln) (hkP : ad kP = G.2.2.2) (hn0 : 0 < n) (hk : kg < 10 ^ n) (hm : 0 < mm) (la : Nat) (hla : Ln (mm - 1) = la) (hLn : la < 10 ^ n) (yr s0 what : Nat) (hyr : yr < 1000) (hs0 : s0 < 2147483648) (hwh : what < 4) : Ct l G yX11_copied cX11_copied 11 (some .int) 7 0 0 ad ws [.ref 0, .int (nI yr), .int (nI s0), .int (nI what)] (pI ad (fun r ws2 => r = copI n K (copTo n K nj Js (la, kg, 0, s0) yr) what ∧ ws2 = ws)) := by
  refine Ct.of [some (.ref 0), some (.int (nI yr)), some (.int (nI s0)), some (.int (nI what)), none, none, none, none, none, none, none] (by decide +kernel) (Nat.le_of_ble_eq_true rfl) rfl ?_
  intro p e s m args below meth c A X
  have hn := hL.1
  have h104 := pow_le4 hn
  obtain ⟨tr, kk, km, kp, kh, z0⟩ := hO
  obtain ⟨fl, hR1, hR2⟩ := hR
  have z23 := hR1.1
  have z1 := hL.2.1
  have z4 := hM.1
  have hm60 := hR1.2.2.1
  refine V_aload_n0 X dX11_copied_0 ?_
  refine V_getf X dX11_copied_1 fX11_57 (by assumption) (by rfl) ?_
  refine V_cV0I X dX11_copied_4 kX11_138 (t_Rlast l G ad ws 23 24 60 mm fl hR1 hm) (by assumption) (by rfl) (Nat.le_of_ble_eq_true rfl) ⟨⟨Nat.le_of_ble_eq_true rfl, Nat.le_of_ble_eq_true rfl⟩, Nat.le_of_ble_eq_true rfl, Nat.le_of_ble_eq_true rfl⟩ (fun r ws2 hc => ?_)
  obtain ⟨rfl, hw9⟩ := hc
  obtain rfl := hw9.symm
  rw [hR2 _ (by omega), hla]
  refine V_istore_4 X dX11_copied_7 (Nat.le_of_ble_eq_true rfl) rfl ?_
  refine V_aload_n0 X dX11_copied_9 ?_
  refine V_getf X dX11_copied_10 fX11_66 (by assumption) (by rfl) ?_
  refine V_istore_5 X dX11_copied_13 (Nat.le_of_ble_eq_true rfl) rfl ?_
  refine V_iconstE X (nI 0) dX11_copied_15 (by decide +kernel) ?_
  refine V_istore_6 X dX11_copied_16 (Nat.le_of_ble_eq_true rfl) rfl ?_
  refine V_iload_n2 X dX11_copied_18 ?_
  refine V_istore_7 X dX11_copied_19 (Nat.le_of_ble_eq_true rfl) rfl ?_
  refine V_iconstE X (nI 0) dX11_copied_21 (by decide +kernel) ?_
  refine V_istore_8 X dX11_copied_22 (Nat.le_of_ble_eq_true rfl) rfl ?_
  refine V_loopP (fun k lv2 => ∃ (y : Nat) (w9 w10 : Option Value) (q : CS4), y + k = yr ∧ q = copTo n K nj Js (la, kg, 0, s0) y ∧ q.1 < 10 ^ n ∧ q.2.1 < 10 ^ n ∧ q.2.2.1 ≤ y ∧ q.2.2.2 < 2147483648 ∧ lv2 = [some (.ref 0), some (.int (nI yr)), some (.int (nI s0)), some (.int (nI what)), some (.int (nI q.1)), some (.int (nI q.2.1)), some (.int (nI q.2.2.1)), some (.int (nI q.2.2.2)), some (.int (nI y)), w9, w10] ∧ noL lv2 10 = true) yr ⟨0, none, none, (la, kg, 0, s0), by omega, rfl, hLn, hk, Nat.le_refl 0, hs0, rfl, by rfl⟩ ?_
  rintro k _ ⟨y, w9, w10, q, hy, hq, hq1, hq2, hq3, hq4, rfl, hno⟩ ih
  refine V_iload_8 X dX11_copied_24 ?_
  refine V_iload_n1 X dX11_copied_26 ?_
  refine V_icmp_ge X 132 dX11_copied_27 (by decide) (fun h => ?_) (fun h => ?_)
  · have e9 : y = yr := by have := (nI_leI (by omega) (by omega)).mp h; omega
    rw [e9] at hq
    refine V_iload_n3 X dX11_copied_132 ?_
    rcases (show what = 0 ∨ what = 1 ∨ what = 2 ∨ what = 3 by omega) with rfl | rfl | rfl | rfl
    · refine V_tswI X 160 dX11_copied_133 (by decide +kernel) (by decide +kernel) (off := 27) (by decide +kernel) (by decide) ?_
      refine V_iload_4 X dX11_copied_160 ?_
      exact V_iret X dX11_copied_162 ⟨by rw [← hq]; rfl, rfl⟩
    · refine V_tswI X 163 dX11_copied_133 (by decide +kernel) (by decide +kernel) (off := 30) (by decide +kernel) (by decide) ?_
      refine V_aload_n0 X dX11_copied_163 ?_
      refine V_getf X dX11_copied_164 fX11_12 (by assumption) (by rfl) ?_
      refine V_iload_4 X dX11_copied_167 ?_
      refine V_iload_5 X dX11_copied_169 ?_
      refine V_cV2I X dX11_copied_171 kX11_131 (t_Lgap l G ad ws n K hL hkP q.1 q.2.1 (by omega) (by omega)) (by assumption) (by rfl) (Nat.le_of_ble_eq_true rfl) ⟨⟨Nat.le_of_ble_eq_true rfl, Nat.le_of_ble_eq_true rfl⟩, Nat.le_of_ble_eq_true rfl, Nat.le_of_ble_eq_true rfl⟩ (fun r ws2 hc => ?_)
      obtain ⟨rfl, hw9⟩ := hc
      obtain rfl := hw9.symm
      exact V_iret X dX11_copied_174 ⟨by rw [← hq]; rfl, rfl⟩
    · refine V_tswI X 175 dX11_copied_133 (by decide +kernel) (by decide +kernel) (off := 42) (by decide +kernel) (by decide) ?_
      refine V_iload_6 X dX11_copied_175 ?_
      exact V_iret X dX11_copied_177 ⟨by rw [← hq]; rfl, rfl⟩
    · refine V_tswO X 178 dX11_copied_133 (by decide +kernel) (by decide) ?_
      refine V_iload_7 X dX11_copied_178 ?_
      exact V_iret X dX11_copied_180 ⟨by rw [← hq]; rfl, rfl⟩
  · have e9 : y < yr := by
      rcases Nat.lt_or_ge y yr with q9 | q9
      · exact q9
      · exact absurd ((nI_leI (by omega) (by omega)).mpr q9) h
    have hag := agedP_lt (K := K) hq2
    have hn1 := nxN_lt q.2.2.2
    have hn2 := nxN_lt (nxN q.2.2.2)
    have hff : nxN q.2.2.2 / 65536 % n < n := Nat.mod_lt _ hn0
    refine V_aload_n0 X dX11_copied_30 ?_
    refine V_getf X dX11_copied_31 fX11_12 (by assumption) (by rfl) ?_
    refine V_iload_5 X dX11_copied_34 ?_
    refine V_cV1I X dX11_copied_36 kX11_134 (t_Laged l G ad ws n K hL hkP q.2.1 hq2) (by assumption) (by rfl) (Nat.le_of_ble_eq_true rfl) ⟨⟨Nat.le_of_ble_eq_true rfl, Nat.le_of_ble_eq_true rfl⟩, Nat.le_of_ble_eq_true rfl, Nat.le_of_ble_eq_true rfl⟩ (fun r ws2 hc => ?_)
    obtain ⟨rfl, hw9⟩ := hc
    obtain rfl := hw9.symm
    refine V_istore_5 X dX11_copied_39 (Nat.le_of_ble_eq_true rfl) rfl ?_
    refine V_iload_7 X dX11_copied_41 ?_
    refine V_cS1I X dX11_copied_43 kX11_295 (t_nextSeed l G ad ws q.2.2.2 hq4) (Nat.le_of_ble_eq_true rfl) ⟨⟨Nat.le_of_ble_eq_true rfl, Nat.le_of_ble_eq_true rfl⟩, Nat.le_of_ble_eq_true rfl, Nat.le_of_ble_eq_true rfl⟩ (fun r ws2 hc => ?_)
    obtain ⟨rfl, hw9⟩ := hc
    obtain rfl := hw9.symm
    refine V_istore_7 X dX11_copied_46 (Nat.le_of_ble_eq_true rfl) rfl ?_
    refine V_iload_7 X dX11_copied_48 ?_
    refine V_aload_n0 X dX11_copied_50 ?_
    refine V_getf X dX11_copied_51 fX11_12 (by assumption) (by rfl) ?_
    refine V_cV0I X dX11_copied_54 kX11_122 (t_Lsize l G ad ws n K hL) (by assumption) (by rfl) (Nat.le_of_ble_eq_true rfl) ⟨⟨Nat.le_of_ble_eq_true rfl, Nat.le_of_ble_eq_true rfl⟩, Nat.le_of_ble_eq_true rfl, Nat.le_of_ble_eq_true rfl⟩ (fun r ws2 hc => ?_)
    obtain ⟨rfl, hw9⟩ := hc
    obtain rfl := hw9.symm
    refine V_cS2I X dX11_copied_57 kX11_298 (t_drawn l G ad ws (nxN q.2.2.2) n hn1 hn0 (by omega)) (Nat.le_of_ble_eq_true rfl) ⟨⟨Nat.le_of_ble_eq_true rfl, Nat.le_of_ble_eq_true rfl⟩, Nat.le_of_ble_eq_true rfl, Nat.le_of_ble_eq_true rfl⟩ (fun r ws2 hc => ?_)
    obtain ⟨rfl, hw9⟩ := hc
    obtain rfl := hw9.symm
    refine V_istore_9 X dX11_copied_60 (Nat.le_of_ble_eq_true rfl) rfl ?_
    refine V_iload_7 X dX11_copied_62 ?_
    refine V_cS1I X dX11_copied_64 kX11_295 (t_nextSeed l G ad ws (nxN q.2.2.2) hn1) (Nat.le_of_ble_eq_true rfl) ⟨⟨Nat.le_of_ble_eq_true rfl, Nat.le_of_ble_eq_true rfl⟩, Nat.le_of_ble_eq_true rfl, Nat.le_of_ble_eq_true rfl⟩ (fun r ws2 hc => ?_)
    obtain ⟨rfl, hw9⟩ := hc
    obtain rfl := hw9.symm
    refine V_istore_7 X dX11_copied_67 (Nat.le_of_ble_eq_true rfl) rfl ?_
    refine V_aload_n0 X dX11_copied_69 ?_
    refine V_getf X dX11_copied_70 fX11_12 (by assumption) (by rfl) ?_
    refine V_iload_4 X dX11_copied_73 ?_
    refine V_iload_9 X dX11_copied_75 ?_
    refine V_iload_7 X dX11_copied_77 ?_
    refine V_iconstE X (nI 2) dX11_copied_79 (by decide +kernel) ?_
    refine V_cS2I X dX11_copied_80 kX11_298 (t_drawn l G ad ws (nxN (nxN q.2.2.2)) 2 hn2 (by omega) (by omega)) (Nat.le_of_ble_eq_true rfl) ⟨⟨Nat.le_of_ble_eq_true rfl, Nat.le_of_ble_eq_true rfl⟩, Nat.le_of_ble_eq_true rfl, Nat.le_of_ble_eq_true rfl⟩ (fun r ws2 hc => ?_)
    obtain ⟨rfl, hw9⟩ := hc
    obtain rfl := hw9.symm
    generalize hup : decide (nxN (nxN q.2.2.2) / 65536 % 2 = 1) = up
    generalize hfx : nxN q.2.2.2 / 65536 % n = f at hff ⊢
    have nxt : ∀ (q2 : CS4) (w10 : Option Value), q2 = copTo n K nj Js (la, kg, 0, s0) (y + 1) → q2.1 < 10 ^ n → q2.2.1 = agedP n K q.2.1 → q2.2.2.1 ≤ y + 1 → q2.2.2.2 = nxN (nxN q.2.2.2) → V p l e (rmm 7 0 0) s m args below meth c 0 0 (MQ below (QQ G A (pI ad (fun r ws2 => r = copI n K (copTo n K nj Js (la, kg, 0, s0) yr) what ∧ ws2 = ws))) args s 0 0 A) G A 11 ad ws 126 [some (.ref 0), some (.int (nI yr)), some (.int (nI s0)), some (.int (nI what)), some (.int (nI q2.1)), some (.int (nI (agedP n K q.2.1))), some (.int (nI q2.2.2.1)), some (.int (nI (nxN (nxN q.2.2.2)))), some (.int (nI y)), some (.int (nI f)), w10] [] := by
      intro q2 w10 a1 a2 a3 a4 a5
      refine V_iinc_8 X dX11_copied_126 (Nat.le_of_ble_eq_true rfl) rfl (inc1 _) ?_
      refine V_goto X 24 dX11_copied_129 (by decide) ?_
      exact ih (k - 1) _ (by omega) ⟨y + 1, _, w10, q2, by omega, a1, a2, by rw [a3]; exact hag, a4, by rw [a5]; exact hn2, by rw [a3, a5], by rfl⟩
    have hst : copTo n K nj Js (la, kg, 0, s0) (y + 1) = copStep n K nj Js q := by rw [copTo, ← hq]
    have after : V p l e (rmm 7 0 0) s m args below meth c 0 0 (MQ below (QQ G A (pI ad (fun r ws2 => r = copI n K (copTo n K nj Js (la, kg, 0, s0) yr) what ∧ ws2 = ws))) args s 0 0 A) G A 11 ad ws 92 [some (.ref 0), some (.int (nI yr)), some (.int (nI s0)), some (.int (nI what)), some (.int (nI q.1)), some (.int (nI (agedP n K q.2.1))), some (.int (nI q.2.2.1)), some (.int (nI (nxN (nxN q.2.2.2)))), some (.int (nI y)), some (.int (nI f)), w10] [.int (byI up), .int (nI f), .int (nI q.1), .ref 1] := by
      refine V_cV3I X dX11_copied_92 kX11_301 (t_slip l G ad ws n K hL hkP q.1 f (by omega) (by omega) up) (by assumption) (by rfl) (Nat.le_of_ble_eq_true rfl) ⟨⟨Nat.le_of_ble_eq_true rfl, Nat.le_of_ble_eq_true rfl⟩, Nat.le_of_ble_eq_true rfl, Nat.le_of_ble_eq_true rfl⟩ (fun r ws2 hc => ?_)
      obtain ⟨rfl, hw9⟩ := hc
      obtain rfl := hw9.symm
      cases hsl : slipP K q.1 f up with
      | none =>
        have hq5 : copStep n K nj Js q = (q.1, agedP n K q.2.1, q.2.2.1, nxN (nxN q.2.2.2)) := by unfold copStep; rw [hfx, hup, hsl]
        refine V_istore_10 X dX11_copied_95 (Nat.le_of_ble_eq_true rfl) rfl ?_
        refine V_iload_10 X dX11_copied_97 ?_
        refine V_iconstE X (-1) dX11_copied_99 (by decide +kernel) ?_
        refine V_icmp_eq X 126 dX11_copied_100 (by decide) (fun h6 => ?_) (fun h6 => ?_)
        · exact nxt (q.1, agedP n K q.2.1, q.2.2.1, nxN (nxN q.2.2.2)) _ (by rw [hst, hq5]) hq1 rfl (by show q.2.2.1 ≤ y + 1; omega) rfl
        · exact absurd rfl h6
      | some x =>
        have hx := slipP_lt hq1 hff hsl
        refine V_istore_10 X dX11_copied_95 (Nat.le_of_ble_eq_true rfl) rfl ?_
        refine V_iload_10 X dX11_copied_97 ?_
        refine V_iconstE X (-1) dX11_copied_99 (by decide +kernel) ?_
        refine V_icmp_eq X 126 dX11_copied_100 (by decide) (fun h6 => ?_) (fun h6 => ?_)
        · exact absurd h6 (nI_m1 (by omega))
        · refine V_aload_n0 X dX11_copied_103 ?_
          refine V_getf X dX11_copied_104 fX11_21 (by assumption) (by rfl) ?_
          refine V_iload_4 X dX11_copied_107 ?_
          refine V_iload_10 X dX11_copied_109 ?_
          refine V_iload_5 X dX11_copied_111 ?_
          refine V_cV3I X dX11_copied_113 kX11_141 (t_agrees l G ad ws n nj K Js hL hM hB q.1 x _ (by omega) (by omega) (by omega)) (by assumption) (by rfl) (Nat.le_of_ble_eq_true rfl) ⟨⟨Nat.le_of_ble_eq_true rfl, Nat.le_of_ble_eq_true rfl⟩, Nat.le_of_ble_eq_true rfl, Nat.le_of_ble_eq_true rfl⟩ (fun r ws2 hc => ?_)
          obtain ⟨rfl, hw9⟩ := hc
          obtain rfl := hw9.symm
          refine V_if_eq X 126 dX11_copied_116 (by decide) (fun h7 => ?_) (fun h7 => ?_)
          · have e7 := b_of0 h7
            have hq5 : copStep n K nj Js q = (q.1, agedP n K q.2.1, q.2.2.1, nxN (nxN q.2.2.2)) := by unfold copStep; rw [hfx, hup, hsl]; simp only; rw [e7]; rfl
            exact nxt (q.1, agedP n K q.2.1, q.2.2.1, nxN (nxN q.2.2.2)) _ (by rw [hst, hq5]) hq1 rfl (by show q.2.2.1 ≤ y + 1; omega) rfl
          · have e7 := b_of1 h7
            have hq5 : copStep n K nj Js q = (x, agedP n K q.2.1, q.2.2.1 + 1, nxN (nxN q.2.2.2)) := by unfold copStep; rw [hfx, hup, hsl]; simp only; rw [e7]; rfl
            refine V_iload_10 X dX11_copied_119 ?_
            refine V_istore_4 X dX11_copied_121 (Nat.le_of_ble_eq_true rfl) rfl ?_
            refine V_iinc_6 X dX11_copied_123 (Nat.le_of_ble_eq_true rfl) rfl (inc1 _) ?_
            exact nxt (x, agedP n K q.2.1, q.2.2.1 + 1, nxN (nxN q.2.2.2)) _ (by rw [hst, hq5]) hx rfl (by show q.2.2.1 + 1 ≤ y + 1; omega) rfl
    refine V_iconstE X (nI 1) dX11_copied_83 (by decide +kernel) ?_
    refine V_icmp_ne X 91 dX11_copied_84 (by decide) (fun h6 => ?_) (fun h6 => ?_)
    · have e10 : up = false := by rw [← hup]; exact decide_eq_false (fun q9 => h6 (by rw [q9]))
      rw [e10] at after
      refine V_iconstE X (-1) dX11_copied_91 (by decide +kernel) ?_
      exact after
    · have e10 : up = true := by rw [← hup]; exact decide_eq_true ((nI_eq (b := 1) (by omega) (by omega)).mp h6)
      rw [e10] at after
      refine V_iconstE X (nI 1) dX11_copied_87 (by decide +kernel) ?_
      refine V_goto X 92 dX11_copied_88 (by decide) ?_
      exact after
