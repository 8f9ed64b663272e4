/-! fewestSlips -/
def zeroL (L : List (Nat × Nat)) : Prop := ∀ e ∈ L, e.1 = 0
def procS (n : Nat) (K : Nat → Nat) (nj : Nat) (Js : Nat → JD) (kg : Nat) : Nat → Nat → List (Nat × Nat) → List (Nat × Nat)
  | 0, _, L => L
  | c + 1, i, L => procS n K nj Js kg c (i + 1) (expS n K nj Js kg (L.getD i (0, 0)).2 n L)
def fewS (n : Nat) (K : Nat → Nat) (nj : Nat) (Js : Nat → JD) (kg to : Nat) : Nat → Nat → Nat → List (Nat × Nat) → Int32
  | 0, _, _, _ => (-1)
  | k + 1, y, done, L => if hasP (procS n K nj Js kg (L.length - done) done L) to then nI y else fewS n K nj Js kg to k (y + 1) L.length (procS n K nj Js kg (L.length - done) done L)
def slipsI (n : Nat) (K : Nat → Nat) (nj : Nat) (Js : Nat → JD) (kg fro to : Nat) : Int32 := if fro = to then nI 0 else fewS n K nj Js kg to 20 1 0 [(0, fro)]
theorem zeroL_slip {n : Nat} {K : Nat → Nat} {nj : Nat} {Js : Nat → JD} {kg p f : Nat} {up : Bool} {L : List (Nat × Nat)} (h : zeroL L) : zeroL (slipS n K nj Js kg p f up L) := by
  unfold slipS
  split
  · exact h
  · split
    · intro e he
      rcases List.mem_append.mp he with he | he
      · exact h e he
      · simp at he; subst he; rfl
    · exact h
theorem zeroL_exp {n : Nat} {K : Nat → Nat} {nj : Nat} {Js : Nat → JD} {kg p : Nat} {L : List (Nat × Nat)} (h : zeroL L) : ∀ f, zeroL (expS n K nj Js kg p f L)
  | 0 => h
  | f + 1 => zeroL_slip (zeroL_slip (zeroL_exp h f))
theorem len_slip (n : Nat) (K : Nat → Nat) (nj : Nat) (Js : Nat → JD) (kg p f : Nat) (up : Bool) (L : List (Nat × Nat)) : L.length ≤ (slipS n K nj Js kg p f up L).length := by
  unfold slipS
  split
  · exact Nat.le_refl _
  · split
    · rw [List.length_append]; omega
    · exact Nat.le_refl _
theorem len_exp (n : Nat) (K : Nat → Nat) (nj : Nat) (Js : Nat → JD) (kg p : Nat) (L : List (Nat × Nat)) : ∀ f, L.length ≤ (expS n K nj Js kg p f L).length
  | 0 => Nat.le_refl _
  | f + 1 => Nat.le_trans (len_exp n K nj Js kg p L f) (Nat.le_trans (len_slip n K nj Js kg p f false _) (len_slip n K nj Js kg p f true _))
def SW (ws : List CE) (kr ke rd len : Nat) (ty ft : Int32) (fw fe : Nat → Int32) : Prop := ((kr = 15 ∧ ke = 16) ∨ (kr = 16 ∧ ke = 15)) ∧ rd < 1000000000 ∧ ws[13]? = some (SObj kr ke rd len ty ft) ∧ ∃ fs : Nat → Int32, ws[14]? = some (iA 10000 fs) ∧ ws[kr]? = some (iA 10000 fw) ∧ ws[ke]? = some (iA 10000 fe) ∧ (∀ p, p < 10000 → ∃ v, v ≤ rd ∧ fs p = nI v)
theorem t_startRound0 (l : Launch) (G : GX) (ad : Nat → Nat) (ws : List CE) (kr ke rd len : Nat) (ty ft : Int32) (fw fe : Nat → Int32) (hS : SW ws kr ke rd len ty ft fw fe) (hrd : rd + 1 < 1000000000) : Ct l G yX9_startRound cX9_startRound 1 none 0 0 0 ad ws [.ref 13] (pV ad (fun ws2 => SR ws2 kr ke (rd + 1) [] ty ft fe ∧ fr sea4 ws ws2)) := by
  refine Ct.of [some (.ref 13)] (by decide +kernel) (Nat.le_of_ble_eq_true rfl) rfl ?_
  intro p e s m args below meth c A X
  obtain ⟨h1, h2, h3, fs, h5, h6, h7, h8⟩ := hS
  refine V_aload_n0 X dX9_startRound_0 ?_
  refine V_dup X dX9_startRound_1 rfl ?_
  refine V_getf X dX9_startRound_2 fX9_15 (by assumption) (by rfl) ?_
  refine V_iconstE X (nI 1) dX9_startRound_5 (by decide +kernel) ?_
  refine V_iadd X dX9_startRound_6 ?_
  rw [nI_add]
  refine V_putf X dX9_startRound_7 fX9_15 (by assumption) (Nat.le_of_ble_eq_true rfl) rfl rfl ?_
  have d3 := gset (e2 := SObj kr ke (rd + 1) len ty ft) h3
  refine V_aload_n0 X dX9_startRound_10 ?_
  refine V_iconstE X (nI 0) dX9_startRound_11 (by decide +kernel) ?_
  refine V_putf X dX9_startRound_12 fX9_25 (by assumption) (Nat.le_of_ble_eq_true rfl) rfl rfl ?_
  refine V_vret X dX9_startRound_15 ⟨⟨h1, hrd, gset d3, ⟨by simp, fun e he => absurd he (by simp)⟩, fs, fw, gne (by omega) (gne (by omega) h5), gne (by omega) (gne (by omega) h6), gne (by omega) (gne (by omega) h7), ?_, fun i e he => absurd he (by simp)⟩, (fr.rfl.set (by decide)).set (by decide)⟩
  intro p0 hp
  obtain ⟨v, hv, e1⟩ := h8 p0 hp
  exact ⟨v, by omega, e1, ⟨fun q => absurd q (by omega), fun q => by simp [hasP] at q⟩⟩
def SV (ws : List CE) (kr ke rd len : Nat) (ty ft : Int32) (fe : Nat → Int32) : Prop := ∃ fw : Nat → Int32, SW ws kr ke rd len ty ft fw fe
theorem SV.obj {ws : List CE} {kr ke rd len : Nat} {ty ft : Int32} {fe : Nat → Int32} (h : SV ws kr ke rd len ty ft fe) : ws[13]? = some (SObj kr ke rd len ty ft) := h.elim (fun _ q => q.2.2.1)
theorem SR.toV {ws : List CE} {kr ke rd : Nat} {L : List (Nat × Nat)} {ty ft : Int32} {fe : Nat → Int32} (h : SR ws kr ke rd L ty ft fe) : SV ws kr ke rd L.length ty ft fe := by
  obtain ⟨h1, h2, h3, h4, fs, fw, h5, h6, h7, h8, h9⟩ := h
  exact ⟨fw, h1, h2, h3, fs, h5, h6, h7, fun p0 hp => by obtain ⟨v, a, b, _⟩ := h8 p0 hp; exact ⟨v, a, b⟩⟩
theorem SV.fr {ks : List Nat} {ws ws2 : List CE} {kr ke rd len : Nat} {ty ft : Int32} {fe : Nat → Int32} (h : SV ws kr ke rd len ty ft fe) (hf : fr ks ws ws2) (hk : ∀ k ∈ ks, k < 13 ∨ 16 < k) : SV ws2 kr ke rd len ty ft fe := by
  obtain ⟨fw, h1, h2, h3, fs, h5, h6, h7, h8⟩ := h
  have nk : ∀ k, ¬ (k < 13 ∨ 16 < k) → k ∉ ks := fun k q q2 => q (hk k q2)
  exact ⟨fw, h1, h2, hf.get (nk _ (by omega)) h3, fs, hf.get (nk _ (by omega)) h5, hf.get (nk _ (by omega)) h6, hf.get (nk _ (by omega)) h7, h8⟩
theorem SV.put {ws : List CE} {kr ke rd len : Nat} {ty ft : Int32} {fe : Nat → Int32} (h : SV ws kr ke rd len ty ft fe) (ty2 ft2 : Int32) : SV (ws.set 13 (SObj kr ke rd len ty2 ft2)) kr ke rd len ty2 ft2 fe := by
  obtain ⟨fw, h1, h2, h3, fs, h5, h6, h7, h8⟩ := h
  exact ⟨fw, h1, h2, gset h3, fs, gne (by decide) h5, gne (by omega) h6, gne (by omega) h7, h8⟩
set_option maxHeartbeats 1000000 in
theorem t_few (l : Launch) (G : GX) (ad : Nat → Nat) (ws : List CE) (n nj : Nat) (K : Nat → Nat) (Js : Nat → JD) (kr ke rd : Nat) (L0 : Nat) (ty ft : Int32) (fe : Nat → Int32) (hL : LooksAt ws n K) (hM : MarksAt ws n nj Js) (hB : BitsAt ws n nj Js) (hS : SV ws kr ke rd L0 ty ft fe) (hrd : rd + 1 < 1000000000) (hkP : ad kP = G.2.2.2) (fro to kg : Nat) (hfr0 : fro < 10 ^ n) (hto : to < 10 ^ n) (hk : kg < 2147483648) : Ct l G yX9_fewestSlips cX9_fewestSlips 7 (some .int) 8 0 0 ad ws [.ref 13, .int (nI fro), .int (nI to), .int (nI kg)] (pI ad (fun r ws2 => r = slipsI n K nj Js kg fro to ∧ (∃ rd2 L2, rd2 ≤ rd + 1 ∧ SV ws2 kr ke rd2 L2 ty ft fe) ∧ fr sea4 ws ws2)) := by
  refine Ct.of [some (.ref 13), some (.int (nI fro)), some (.int (nI to)), some (.int (nI kg)), none, none, none] (by decide +kernel) (Nat.le_of_ble_eq_true rfl) rfl ?_
  intro p e s m args below meth c A X
  have hn := hL.1
  have h104 := pow_le4 hn
  have z13 := hS.obj
  refine V_iload_n1 X dX9_fewestSlips_0 ?_
  refine V_iload_n2 X dX9_fewestSlips_1 ?_
  refine V_icmp_ne X 7 dX9_fewestSlips_2 (by decide) (fun h => ?_) (fun h => ?_)
  · have e9 : ¬ fro = to := fun q => h (by rw [q])
    refine V_aload_n0 X dX9_fewestSlips_7 ?_
    obtain ⟨fw9, hS9⟩ := hS
    refine V_cV0V X dX9_fewestSlips_8 kX9_42 (t_startRound0 l G ad ws kr ke rd L0 ty ft fw9 fe hS9 hrd) (by assumption) (by rfl) (Nat.le_of_ble_eq_true rfl) ⟨⟨Nat.le_of_ble_eq_true rfl, Nat.le_of_ble_eq_true rfl⟩, Nat.le_of_ble_eq_true rfl, Nat.le_of_ble_eq_true rfl⟩ (fun ws2 hc => ?_)
    obtain ⟨hS1, hf1⟩ := hc
    have z13 := hS1.2.2.1
    refine V_aload_n0 X dX9_fewestSlips_11 ?_
    refine V_iload_n1 X dX9_fewestSlips_12 ?_
    refine V_iconstE X (nI 0) dX9_fewestSlips_13 (by decide +kernel) ?_
    refine V_cV2V X dX9_fewestSlips_14 kX9_45 (t_reach l G ad ws2 kr ke (rd + 1) [] ty ft fe hS1 fro 0 (by omega) (by omega) rfl) (by assumption) (by rfl) (Nat.le_of_ble_eq_true rfl) ⟨⟨Nat.le_of_ble_eq_true rfl, Nat.le_of_ble_eq_true rfl⟩, Nat.le_of_ble_eq_true rfl, Nat.le_of_ble_eq_true rfl⟩ (fun ws2 hc => ?_)
    rename_i wq
    obtain ⟨hS2, hf2⟩ := hc
    have hf3 := hf1.trans hf2
    refine V_iconstE X (nI 0) dX9_fewestSlips_17 (by decide +kernel) ?_
    refine V_istore_4 X dX9_fewestSlips_18 (Nat.le_of_ble_eq_true rfl) rfl ?_
    refine V_iconstE X (nI 1) dX9_fewestSlips_20 (by decide +kernel) ?_
    refine V_istore_5 X dX9_fewestSlips_21 (Nat.le_of_ble_eq_true rfl) rfl ?_
    refine V_loop (fun k wk lv2 => ∃ (y done : Nat) (L : List (Nat × Nat)) (w6 : Option Value), y + k = 21 ∧ 1 ≤ y ∧ done ≤ L.length ∧ lv2 = [some (.ref 13), some (.int (nI fro)), some (.int (nI to)), some (.int (nI kg)), some (.int (nI done)), some (.int (nI y)), w6] ∧ fr sea4 ws wk ∧ SR wk kr ke (rd + 1) L ty ft fe ∧ bndL n L ∧ zeroL L ∧ fewS n K nj Js kg to k y done L = slipsI n K nj Js kg fro to) 20 ⟨1, 0, [(0, fro)], none, by omega, by omega, by simp, rfl, hf3, hS2, ?_, ?_, by rw [slipsI, if_neg e9]⟩ ?_
    · intro e he; simp at he; subst he; exact hfr0
    · intro e he; simp at he; subst he; rfl
    rintro k wk _ ⟨y, done, L, w6, hy, hy1, hdone, rfl, hfk, hSk, hbk, hzk, hres⟩ ih
    have z13 := hSk.2.2.1
    have hlen := goodL_len hSk.2.2.2.1
    refine V_iload_5 X dX9_fewestSlips_23 ?_
    refine V_bipushE X (nI 20) dX9_fewestSlips_25 (by decide +kernel) ?_
    refine V_icmp_gt X 78 dX9_fewestSlips_27 (by decide) (fun h6 => ?_) (fun h6 => ?_)
    · have e10 : 20 < y := (nI_ltI (a := 20) (by omega) (by omega)).mp h6
      have e11 : k = 0 := by omega
      subst e11
      refine V_iconstE X (-1) dX9_fewestSlips_78 (by decide +kernel) ?_
      exact V_iret X dX9_fewestSlips_79 ⟨hres, ⟨rd + 1, L.length, Nat.le_refl _, hSk.toV⟩, hfk⟩
    · have e10 : y ≤ 20 := by
        rcases Nat.lt_or_ge 20 y with q | q
        · exact absurd ((nI_ltI (a := 20) (by omega) (by omega)).mpr q) h6
        · exact q
      obtain ⟨k, rfl⟩ : ∃ k2, k = k2 + 1 := ⟨k - 1, by omega⟩
      refine V_aload_n0 X dX9_fewestSlips_30 ?_
      refine V_getf X dX9_fewestSlips_31 fX9_25 (by assumption) (by rfl) ?_
      refine V_istore_6 X dX9_fewestSlips_34 (Nat.le_of_ble_eq_true rfl) rfl ?_
      refine V_loop (fun k2 wz lv2 => ∃ (i : Nat) (L1 : List (Nat × Nat)), i + k2 = L.length ∧ lv2 = [some (.ref 13), some (.int (nI fro)), some (.int (nI to)), some (.int (nI kg)), some (.int (nI i)), some (.int (nI y)), some (.int (nI L.length))] ∧ fr sea4 ws wz ∧ SR wz kr ke (rd + 1) L1 ty ft fe ∧ bndL n L1 ∧ zeroL L1 ∧ L.length ≤ L1.length ∧ procS n K nj Js kg k2 i L1 = procS n K nj Js kg (L.length - done) done L) (L.length - done) ⟨done, L, by omega, rfl, hfk, hSk, hbk, hzk, Nat.le_refl _, rfl⟩ ?_
      rintro k2 wz _ ⟨i, L1, hi, rfl, hfz, hSz, hbz, hzz, hll, hpr⟩ ih2
      have z13 := hSz.2.2.1
      have hlen1 := goodL_len hSz.2.2.2.1
      obtain ⟨fs, fw, z14, zr, ze, hs8, hs9⟩ := hSz.2.2.2.2
      refine V_iload_4 X dX9_fewestSlips_36 ?_
      refine V_iload_6 X dX9_fewestSlips_38 ?_
      refine V_icmp_ge X 61 dX9_fewestSlips_40 (by decide) (fun h7 => ?_) (fun h7 => ?_)
      · have e12 : i = L.length := by have := (nI_leI (by omega) (by omega)).mp h7; omega
        have e13 : k2 = 0 := by omega
        subst e13
        refine V_aload_n0 X dX9_fewestSlips_61 ?_
        refine V_iload_n2 X dX9_fewestSlips_62 ?_
        refine V_cV1I X dX9_fewestSlips_63 kX9_52 (t_isReached l G ad wz kr ke (rd + 1) L1 ty ft fe hSz to (by omega)) (by assumption) (by rfl) (Nat.le_of_ble_eq_true rfl) ⟨⟨Nat.le_of_ble_eq_true rfl, Nat.le_of_ble_eq_true rfl⟩, Nat.le_of_ble_eq_true rfl, Nat.le_of_ble_eq_true rfl⟩ (fun r ws2 hc => ?_)
        obtain ⟨rfl, hw9⟩ := hc
        obtain rfl := hw9.symm
        have hp0 : procS n K nj Js kg (L.length - done) done L = L1 := hpr.symm
        rw [fewS, hp0] at hres
        refine V_if_eq X 72 dX9_fewestSlips_66 (by decide) (fun h8 => ?_) (fun h8 => ?_)
        · have e14 : hasP L1 to = false := b_of0 h8
          rw [if_neg (by rw [e14]; decide)] at hres
          rw [e12]
          refine V_iinc_5 X dX9_fewestSlips_72 (Nat.le_of_ble_eq_true rfl) rfl (inc1 _) ?_
          refine V_goto X 23 dX9_fewestSlips_75 (by decide) ?_
          exact ih k _ _ (by omega) ⟨y + 1, L.length, L1, _, by omega, by omega, hll, rfl, hfz, hSz, hbz, hzz, hres⟩
        · have e14 : hasP L1 to = true := b_of1 h8
          rw [if_pos e14] at hres
          refine V_iload_5 X dX9_fewestSlips_69 ?_
          exact V_iret X dX9_fewestSlips_71 ⟨hres, ⟨rd + 1, L1.length, Nat.le_refl _, hSz.toV⟩, hfz⟩
      · have e12 : i < L.length := by
          rcases Nat.lt_or_ge i L.length with q | q
          · exact q
          · exact absurd ((nI_leI (by omega) (by omega)).mpr q) h7
        obtain ⟨k2, rfl⟩ : ∃ k3, k2 = k3 + 1 := ⟨k2 - 1, by omega⟩
        have hget : L1[i]? = some (L1.getD i (0, 0)) := by
          rw [List.getD_eq_getElem?_getD, List.getElem?_eq_getElem (by omega)]; rfl
        generalize hee : L1.getD i (0, 0) = e8 at hget
        have hmem := List.mem_of_getElem? hget
        have hb8 := hbz e8 hmem
        have hz8 := hzz e8 hmem
        refine V_aload_n0 X dX9_fewestSlips_43 ?_
        refine V_aload_n0 X dX9_fewestSlips_44 ?_
        refine V_getf X dX9_fewestSlips_45 fX9_19 (by assumption) (by rfl) ?_
        refine V_iload_4 X dX9_fewestSlips_48 ?_
        refine V_iald X i dX9_fewestSlips_50 (by assumption) rfl (by omega) (by omega) ?_
        rw [hs9 i e8 hget, hz8, Nat.zero_mul, Nat.zero_add]
        refine V_iload_n3 X dX9_fewestSlips_51 ?_
        have hLz := hL.fr hfz (by decide)
        have hMz := hM.fr hfz (by decide) (by decide)
        have hBz := hB.fr hfz (by decide) (by decide) (by decide)
        refine V_cV2V X dX9_fewestSlips_52 kX9_49 (t_slipFrom l G ad wz n nj K Js kr ke (rd + 1) L1 ty ft fe hLz hMz hBz hSz hkP e8.2 kg hb8 hk) (by assumption) (by rfl) (Nat.le_of_ble_eq_true rfl) ⟨⟨Nat.le_of_ble_eq_true rfl, Nat.le_of_ble_eq_true rfl⟩, Nat.le_of_ble_eq_true rfl, Nat.le_of_ble_eq_true rfl⟩ (fun ws2 hc => ?_)
        obtain ⟨hS5, hf5⟩ := hc
        refine V_iinc_4 X dX9_fewestSlips_55 (Nat.le_of_ble_eq_true rfl) rfl (inc1 _) ?_
        refine V_goto X 36 dX9_fewestSlips_58 (by decide) ?_
        refine ih2 k2 _ _ (by omega) ⟨i + 1, _, by omega, rfl, hfz.trans hf5, hS5, bndL_exp hbz hb8 n (Nat.le_refl n), zeroL_exp hzz n, Nat.le_trans hll (len_exp n K nj Js kg e8.2 L1 n), ?_⟩
        rw [← hpr, procS, hee]
  · have e9 : fro = to := (nI_eq (by omega) (by omega)).mp h
    refine V_iconstE X (nI 0) dX9_fewestSlips_5 (by decide +kernel) ?_
    exact V_iret X dX9_fewestSlips_6 ⟨by rw [slipsI, if_pos e9], ⟨rd, L0, by omega, hS⟩, fr.rfl⟩
/-! truth -/
def tryS (n : Nat) (K : Nat → Nat) (nj : Nat) (Js : Nat → JD) (kg p lb f : Nat) (L : List (Nat × Nat)) : List (Nat × Nat) := if !hasP L (withP p f (dg kg f)) && agreeP n K nj Js p (withP p f (dg kg f)) kg then L ++ [(lb, withP p f (dg kg f))] else L
def rowS (n : Nat) (K : Nat → Nat) (nj : Nat) (Js : Nat → JD) (kg p e1 : Nat) (first : Bool) : Nat → List (Nat × Nat) → List (Nat × Nat)
  | 0, L => L
  | f + 1, L => tryS n K nj Js kg p (if first then f else e1) f (rowS n K nj Js kg p e1 first f L)
def oneS (n : Nat) (K : Nat → Nat) (nj : Nat) (Js : Nat → JD) (kg : Nat) (first : Bool) (L : List (Nat × Nat)) (e : Nat × Nat) : List (Nat × Nat) := if hasP (rowS n K nj Js kg e.2 e.1 first n L) e.2 then rowS n K nj Js kg e.2 e.1 first n L else rowS n K nj Js kg e.2 e.1 first n L ++ [(if first then 4 else e.1, e.2)]
def passS (n : Nat) (K : Nat → Nat) (nj : Nat) (Js : Nat → JD) (kg : Nat) (first : Bool) (L : List (Nat × Nat)) : List (Nat × Nat) := L.foldl (oneS n K nj Js kg first) []
def firstI (L : List (Nat × Nat)) (q : Nat) : Int32 := match L.find? (fun e => e.2 == q) with
  | none => (-1)
  | some e => if e.1 = 4 then (-1) else nI e.1
theorem t_trueYears (l : Launch) (G : GX) (ad : Nat → Nat) (ws : List CE) (kr ke rd : Nat) (L : List (Nat × Nat)) (ty ft : Int32) (fe : Nat → Int32) (hS : SR ws kr ke rd L ty ft fe) : Ct l G yX9_trueYears cX9_trueYears 1 (some .int) 0 0 0 ad ws [.ref 13] (pI ad (fun r ws2 => r = ty ∧ ws2 = ws)) := by
  refine Ct.of [some (.ref 13)] (by decide +kernel) (Nat.le_of_ble_eq_true rfl) rfl ?_
  intro p e s m args below meth c A X
  have z13 := hS.2.2.1
  refine V_aload_n0 X dX9_trueYears_0 ?_
  refine V_getf X dX9_trueYears_1 fX9_28 (by assumption) (by rfl) ?_
  exact V_iret X dX9_trueYears_4 ⟨rfl, rfl⟩
theorem t_firstTrue (l : Launch) (G : GX) (ad : Nat → Nat) (ws : List CE) (kr ke rd : Nat) (L : List (Nat × Nat)) (ty ft : Int32) (fe : Nat → Int32) (hS : SR ws kr ke rd L ty ft fe) : Ct l G yX9_firstTrue cX9_firstTrue 1 (some .int) 0 0 0 ad ws [.ref 13] (pI ad (fun r ws2 => r = ft ∧ ws2 = ws)) := by
  refine Ct.of [some (.ref 13)] (by decide +kernel) (Nat.le_of_ble_eq_true rfl) rfl ?_
  intro p e s m args below meth c A X
  have z13 := hS.2.2.1
  refine V_aload_n0 X dX9_firstTrue_0 ?_
  refine V_getf X dX9_firstTrue_1 fX9_31 (by assumption) (by rfl) ?_
  exact V_iret X dX9_firstTrue_4 ⟨rfl, rfl⟩
theorem i32_rem4 {a b : Nat} (ha : a ≤ 4) (hb : b < 10000) : nI (a * 10000 + b) - nI (a * 10000 + b) / nI 10000 * nI 10000 = nI b := by
  rw [pk_rem (by omega) (by decide) (by decide)]
  congr 1
  omega
theorem i32_div4 {a b : Nat} (ha : a ≤ 4) (hb : b < 10000) : nI (a * 10000 + b) / nI 10000 = nI a := by
  rw [pk_div (by omega) (by decide) (by decide)]
  congr 1
  omega
theorem find_at {L : List (Nat × Nat)} {q i : Nat} {e : Nat × Nat} (hi : L[i]? = some e) (hq : e.2 = q) (hb : ∀ (j : Nat) (e2 : Nat × Nat), j < i → L[j]? = some e2 → e2.2 ≠ q) : L.find? (fun e => e.2 == q) = some e := by
  induction L generalizing i with
  | nil => simp at hi
  | cons a L ih =>
    cases i with
    | zero => simp at hi; subst hi; simp [hq]
    | succ i =>
      have ha := hb 0 a (by omega) (by simp)
      rw [List.find?_cons_of_neg (by simpa using ha)]
      exact ih (by simpa using hi) (fun j e2 hj he => hb (j + 1) e2 (by omega) (by simpa using he))
theorem find_no {L : List (Nat × Nat)} {q : Nat} (hb : ∀ (j : Nat) (e2 : Nat × Nat), L[j]? = some e2 → e2.2 ≠ q) : L.find? (fun e => e.2 == q) = none := by
  rw [List.find?_eq_none]
  intro e he
  obtain ⟨j, hj⟩ := List.getElem?_of_mem he
  simpa using hb j e hj
theorem t_firstOf (l : Launch) (G : GX) (ad : Nat → Nat) (ws : List CE) (kr ke rd : Nat) (L : List (Nat × Nat)) (ty ft : Int32) (fe : Nat → Int32) (hS : SR ws kr ke rd L ty ft fe) (q : Nat) (hq : q < 10000) : Ct l G yX9_firstOf cX9_firstOf 4 (some .int) 0 0 0 ad ws [.ref 13, .int (nI q)] (pI ad (fun r ws2 => r = firstI L q ∧ ws2 = ws)) := by
  refine Ct.of [some (.ref 13), some (.int (nI q)), none, none] (by decide +kernel) (Nat.le_of_ble_eq_true rfl) rfl ?_
  intro p e s m args below meth c A X
  obtain ⟨h1, h2, h3, h4, fs, fw, h5, h6, h7, h8, h9⟩ := hS
  have hlen := goodL_len h4
  refine V_iconstE X (nI 0) dX9_firstOf_0 (by decide +kernel) ?_
  refine V_istore_n2 X dX9_firstOf_1 (Nat.le_of_ble_eq_true rfl) rfl ?_
  refine V_loopP (fun k lv2 => ∃ (i : Nat) (w3 : Option Value), i + k = L.length ∧ lv2 = [some (.ref 13), some (.int (nI q)), some (.int (nI i)), w3] ∧ ∀ (j : Nat) (e2 : Nat × Nat), j < i → L[j]? = some e2 → e2.2 ≠ q) L.length ⟨0, none, by omega, rfl, fun j e2 hj => absurd hj (by omega)⟩ ?_
  rintro k _ ⟨i, w3, hi, rfl, hb⟩ ih
  refine V_iload_n2 X dX9_firstOf_2 ?_
  refine V_aload_n0 X dX9_firstOf_3 ?_
  refine V_getf X dX9_firstOf_4 fX9_25 (by assumption) (by rfl) ?_
  refine V_icmp_ge X 52 dX9_firstOf_7 (by decide) (fun h => ?_) (fun h => ?_)
  · have e9 : L.length ≤ i := (nI_leI (by omega) (by omega)).mp h
    refine V_iconstE X (-1) dX9_firstOf_52 (by decide +kernel) ?_
    refine V_iret X dX9_firstOf_53 ⟨by rw [firstI, find_no (fun j e2 he => hb j e2 (by have := (List.getElem?_eq_some_iff.mp he).1; omega) he)], rfl⟩
  · have e9 : i < L.length := by
      rcases Nat.lt_or_ge i L.length with q9 | q9
      · exact q9
      · exact absurd ((nI_leI (by omega) (by omega)).mpr q9) h
    have hget : L[i]? = some (L[i]) := List.getElem?_eq_getElem e9
    generalize L[i] = e8 at hget
    have hg := h4.2 e8 (List.mem_of_getElem? hget)
    refine V_aload_n0 X dX9_firstOf_10 ?_
    refine V_getf X dX9_firstOf_11 fX9_19 (by assumption) (by rfl) ?_
    refine V_iload_n2 X dX9_firstOf_14 ?_
    refine V_iald X i dX9_firstOf_15 (by assumption) rfl (by omega) (by omega) ?_
    rw [h9 i e8 hget]
    refine V_sipushE X (nI 10000) dX9_firstOf_16 (by decide +kernel) ?_
    refine V_irem X dX9_firstOf_19 (by decide +kernel) ?_
    rw [i32_rem4 hg.1 hg.2]
    refine V_iload_n1 X dX9_firstOf_20 ?_
    refine V_icmp_ne X 46 dX9_firstOf_21 (by decide) (fun h10 => ?_) (fun h10 => ?_)
    · have e10 : ¬ e8.2 = q := fun q9 => h10 (by rw [q9])
      refine V_iinc_2 X dX9_firstOf_46 (Nat.le_of_ble_eq_true rfl) rfl (inc1 _) ?_
      refine V_goto X 2 dX9_firstOf_49 (by decide) ?_
      refine ih (k - 1) _ (by omega) ⟨i + 1, w3, by omega, rfl, fun j e2 hj he => ?_⟩
      by_cases q9 : j = i
      · subst q9
        rw [hget] at he
        cases he
        exact e10
      · exact hb j e2 (by omega) he
    · have e10 : e8.2 = q := (nI_eq (by omega) (by omega)).mp h10
      refine V_aload_n0 X dX9_firstOf_24 ?_
      refine V_getf X dX9_firstOf_25 fX9_19 (by assumption) (by rfl) ?_
      refine V_iload_n2 X dX9_firstOf_28 ?_
      refine V_iald X i dX9_firstOf_29 (by assumption) rfl (by omega) (by omega) ?_
      rw [h9 i e8 hget]
      refine V_sipushE X (nI 10000) dX9_firstOf_30 (by decide +kernel) ?_
      refine V_idiv X dX9_firstOf_33 (by decide +kernel) ?_
      rw [i32_div4 hg.1 hg.2]
      refine V_istore_n3 X dX9_firstOf_34 (Nat.le_of_ble_eq_true rfl) rfl ?_
      refine V_iload_n3 X dX9_firstOf_35 ?_
      refine V_iconstE X (nI 4) dX9_firstOf_36 (by decide +kernel) ?_
      refine V_icmp_ne X 44 dX9_firstOf_37 (by decide) (fun h11 => ?_) (fun h11 => ?_)
      · have e11 : ¬ e8.1 = 4 := fun q9 => h11 (by rw [q9])
        refine V_iload_n3 X dX9_firstOf_44 ?_
        exact V_iret X dX9_firstOf_45 ⟨by rw [firstI, find_at hget e10 hb]; simp [e11], rfl⟩
      · have e11 : e8.1 = 4 := (nI_eq (b := 4) (by omega) (by omega)).mp h11
        refine V_iconstE X (-1) dX9_firstOf_40 (by decide +kernel) ?_
        refine V_goto X 45 dX9_firstOf_41 (by decide) ?_
        exact V_iret X dX9_firstOf_45 ⟨by rw [firstI, find_at hget e10 hb]; simp [e11], rfl⟩
