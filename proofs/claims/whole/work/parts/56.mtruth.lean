/-! the reference: true features -/
def tryT (n : Nat) (K : Nat → Nat) (nj : Nat) (Js : Nat → JD) (kg p f : Nat) (L : List Nat) : List Nat := if !L.contains (withP p f (dg kg f)) && agreeP n K nj Js p (withP p f (dg kg f)) kg then L ++ [withP p f (dg kg f)] else L
def rowT (n : Nat) (K : Nat → Nat) (nj : Nat) (Js : Nat → JD) (kg p : Nat) : Nat → List Nat → List Nat
  | 0, L => L
  | f + 1, L => tryT n K nj Js kg p f (rowT n K nj Js kg p f L)
def yearTo (n : Nat) (K : Nat → Nat) (nj : Nat) (Js : Nat → JD) (kg : Nat) : Nat → List Nat → List Nat
  | 0, L => L
  | c + 1, L => rowT n K nj Js kg ((yearTo n K nj Js kg c L).getD c 0) n (yearTo n K nj Js kg c L)
def runT (n : Nat) (K : Nat → Nat) (nj : Nat) (Js : Nat → JD) : Nat → Nat → Nat → List Nat → Option Nat
  | 0, _, _, _ => none
  | k + 1, y, kg, L => if L.length = 0 then none else if L.contains kg then some y else runT n K nj Js k (y + 1) (agedP n K kg) (yearTo n K nj Js (agedP n K kg) L.length L)
def actT (n : Nat) (kg la act : Nat) : Nat := if act = n then la else withP la act (dg kg act)
def startT (n : Nat) (K : Nat → Nat) (nj : Nat) (Js : Nat → JD) (kg la act : Nat) : List Nat := if act = n ∨ agreeP n K nj Js la (actT n kg la act) kg = true then [actT n kg la act] else []
def truthT (n : Nat) (K : Nat → Nat) (nj : Nat) (Js : Nat → JD) (kg la act : Nat) : Option Nat := runT n K nj Js 12 1 (agedP n K kg) (startT n K nj Js (agedP n K kg) la act)
def foundI (o : Option Nat) : Int32 := match o with
  | none => nI 1000000
  | some y => nI y
def goodT (n : Nat) (L : List Nat) : Prop := L.Nodup ∧ ∀ q ∈ L, q < 10 ^ n
theorem goodT_len {n : Nat} {L : List Nat} (h : goodT n L) : L.length ≤ 10 ^ n := nodup_len (10 ^ n) L h.1 h.2
theorem goodT_add {n : Nat} {L : List Nat} {q : Nat} (h : goodT n L) (hq : L.contains q = false) (h4 : q < 10 ^ n) : goodT n (L ++ [q]) := by
  refine ⟨List.nodup_append.mpr ⟨h.1, by simp, fun a ha b hb => ?_⟩, fun e he => ?_⟩
  · simp at hb
    subst hb
    intro e
    subst e
    simp at hq
    exact hq ha
  · rcases List.mem_append.mp he with he | he
    · exact h.2 e he
    · simp at he; subst he; exact h4
theorem goodT_lt {n : Nat} {L : List Nat} {q : Nat} (h : goodT n L) (hq : L.contains q = false) (h4 : q < 10 ^ n) : L.length < 10 ^ n := by
  have := goodT_len (goodT_add h hq h4)
  simp at this
  omega
theorem goodT_try {n : Nat} {K : Nat → Nat} {nj : Nat} {Js : Nat → JD} {kg p f : Nat} {L : List Nat} (h : goodT n L) (hp : p < 10 ^ n) (hf : f < n) : goodT n (tryT n K nj Js kg p f L) := by
  unfold tryT
  split
  · rename_i q
    simp only [Bool.and_eq_true, Bool.not_eq_true'] at q
    exact goodT_add h q.1 (withP_lt hp hf (dg_lt _ _))
  · exact h
theorem tryT_get {n : Nat} {K : Nat → Nat} {nj : Nat} {Js : Nat → JD} {kg p f : Nat} {L : List Nat} {i q : Nat} (h : L[i]? = some q) : (tryT n K nj Js kg p f L)[i]? = some q := by
  unfold tryT
  split
  · have hi : i < L.length := (List.getElem?_eq_some_iff.mp h).1
    rw [List.getElem?_append_left hi]; exact h
  · exact h
theorem rowT_get {n : Nat} {K : Nat → Nat} {nj : Nat} {Js : Nat → JD} {kg p : Nat} {L : List Nat} {i q : Nat} (h : L[i]? = some q) : ∀ f, (rowT n K nj Js kg p f L)[i]? = some q
  | 0 => h
  | f + 1 => tryT_get (rowT_get h f)
theorem goodT_row {n : Nat} {K : Nat → Nat} {nj : Nat} {Js : Nat → JD} {kg p : Nat} {L : List Nat} (h : goodT n L) (hp : p < 10 ^ n) : ∀ f, f ≤ n → goodT n (rowT n K nj Js kg p f L)
  | 0, _ => h
  | f + 1, hf => goodT_try (goodT_row h hp f (by omega)) hp hf
theorem yearT_get {n : Nat} {K : Nat → Nat} {nj : Nat} {Js : Nat → JD} {kg : Nat} {L : List Nat} {i q : Nat} (h : L[i]? = some q) : ∀ c, (yearTo n K nj Js kg c L)[i]? = some q
  | 0 => h
  | c + 1 => rowT_get (yearT_get h c) n
theorem len_of_get {L L2 : List Nat} (h : ∀ (i q : Nat), L[i]? = some q → L2[i]? = some q) : L.length ≤ L2.length := by
  rcases Nat.eq_zero_or_pos L.length with q | q
  · omega
  · have := (List.getElem?_eq_some_iff.mp (h (L.length - 1) _ (List.getElem?_eq_getElem (by omega)))).1
    omega
theorem goodT_year {n : Nat} {K : Nat → Nat} {nj : Nat} {Js : Nat → JD} {kg : Nat} {L : List Nat} (h : goodT n L) : ∀ c, c ≤ L.length → goodT n (yearTo n K nj Js kg c L)
  | 0, _ => h
  | c + 1, hc => by
    have h1 := goodT_year (K := K) (nj := nj) (Js := Js) (kg := kg) h c (by omega)
    have hg := yearT_get (n := n) (K := K) (nj := nj) (Js := Js) (kg := kg) (List.getElem?_eq_getElem (show c < L.length by omega)) c
    refine goodT_row h1 ?_ n (Nat.le_refl _)
    rw [List.getD_eq_getElem?_getD, hg]
    exact h1.2 _ (List.mem_of_getElem? hg)
def TI (ws : List CE) (L : List Nat) : Prop := ∃ fs fq : Nat → Int32, ws[37]? = some (iA 10000 fs) ∧ ws[38]? = some (iA 10000 fq) ∧ (∀ p, p < 10000 → fs p = bI (L.contains p)) ∧ ∀ i q, L[i]? = some q → fq i = nI q
theorem TI.fr {ks : List Nat} {ws ws2 : List CE} {L : List Nat} (h : TI ws L) (hf : fr ks ws ws2) (h1 : 37 ∉ ks) (h2 : 38 ∉ ks) : TI ws2 L := by
  obtain ⟨a, b, c, d, e⟩ := h
  exact ⟨a, b, hf.get h1 c, hf.get h2 d, e⟩
abbrev tr4 : List Nat := [31, 33, 37, 38]
set_option maxHeartbeats 4000000 in
theorem m_truthBy (l : Launch) (G : GX) (ad : Nat → Nat) (ws : List CE) {n mm np : Nat} {rm sa : Int32} {nj tr : Nat} {sd : Int32} {pn hn : Nat} {kl kp kh : Int32} {hs : Int64} (hO : ws[29]? = some (MO n mm np rm sa nj tr sd pn hn kl kp kh hs)) (hm : 0 < mm) (h6 : mm ≤ 60) (Ln : Nat → Nat) (hl : AI ws 32 60 mm Ln) (K : Nat → Nat) (kg : Nat) (Js : Nat → JD) (hJ : MJ ws n K kg nj Js) (fs0 fq0 ft0 : Nat → Int32) (hs0 : ws[37]? = some (iA 10000 fs0)) (hq0 : ws[38]? = some (iA 10000 fq0)) (ht0 : ws[33]? = some (iA 4 ft0)) (hkg : kg < 10 ^ n) (hla : Ln (mm - 1) < 10 ^ n) (act : Nat) (hact : act ≤ n) : Ct l G yX12_truthBy cX12_truthBy 10 (some .int) 8 0 0 ad ws [.ref 29, .int (nI act)] (pI ad (fun r ws2 => r = foundI (truthT n K nj Js kg (Ln (mm - 1)) act) ∧ AI ws2 31 4 4 (dg kg) ∧ AI ws2 33 4 4 (dg kg) ∧ (∃ fs1 fq1, ws2[37]? = some (iA 10000 fs1) ∧ ws2[38]? = some (iA 10000 fq1)) ∧ fr tr4 ws ws2)) := by
  refine Ct.of [some (.ref 29), some (.int (nI act)), none, none, none, none, none, none, none, none] (by decide +kernel) (Nat.le_of_ble_eq_true rfl) rfl ?_
  intro p e s m args below meth c A X
  have h4 := hJ.1
  have h5 := hJ.2.1
  have h104 := pow_le4 h4
  refine V_aload_n0 X dX12_truthBy_0 ?_
  refine V_cV0V X dX12_truthBy_1 kX12_124 (m_keepKing l G ad ws hO kg hJ.2.2.2.2.2.1 ft0 ht0) (by assumption) (by rfl) (Nat.le_of_ble_eq_true rfl) ⟨⟨Nat.le_of_ble_eq_true rfl, Nat.le_of_ble_eq_true rfl⟩, Nat.le_of_ble_eq_true rfl, Nat.le_of_ble_eq_true rfl⟩ (fun ws2 hc => ?_)
  obtain ⟨hT1, hf1⟩ := hc
  generalize ws2 = w1 at hT1 hf1 ⊢
  refine V_iconstE X (nI 0) dX12_truthBy_4 (by decide +kernel) ?_
  refine V_istore_n2 X dX12_truthBy_5 (Nat.le_of_ble_eq_true rfl) rfl ?_
  refine V_loop (fun k wk lv2 => ∃ i fs, i + k = 10000 ∧ wk[37]? = some (iA 10000 fs) ∧ (∀ p, p < i → fs p = nI 0) ∧ AI wk 33 4 4 (dg kg) ∧ fr [33, 37] ws wk ∧ lv2 = [some (.ref 29), some (.int (nI act)), some (.int (nI i)), none, none, none, none, none, none, none]) 10000 ⟨0, fs0, by omega, hf1.get (by decide) hs0, fun p hp => by omega, hT1, hf1.mono (by decide), rfl⟩ ?_
  clear hT1 hf1
  rintro k wk _ ⟨i, fs, hi, hs1, hs2, hT1, hfr, rfl⟩ ih
  have hO2 := hfr.get (by decide) hO
  refine V_iload_n2 X dX12_truthBy_6 ?_
  refine V_sipushE X (nI 10000) dX12_truthBy_7 (by decide +kernel) ?_
  refine V_icmp_ge X 26 dX12_truthBy_10 (by decide) (fun h => ?_) (fun h => ?_)
  · have e9 : i = 10000 := by have := c_le h; omega
    subst e9
    clear ih
    have hq1 := hfr.get (by decide) hq0
    have hl2 := hl.fr hfr (by decide)
    have hK2 := hJ.2.2.2.2.1.fr hfr (by decide)
    have hG2 := hJ.2.2.2.2.2.1.fr hfr (by decide)
    refine V_aload_n0 X dX12_truthBy_26 ?_
    refine V_cV0V X dX12_truthBy_27 kX12_127 (m_age l G ad wk hO2 h4 K hK2 hJ.2.2.1 kg hG2) (by assumption) (by rfl) (Nat.le_of_ble_eq_true rfl) ⟨⟨Nat.le_of_ble_eq_true rfl, Nat.le_of_ble_eq_true rfl⟩, Nat.le_of_ble_eq_true rfl, Nat.le_of_ble_eq_true rfl⟩ (fun ws2 hc => ?_)
    obtain ⟨hG3, hf3⟩ := hc
    generalize ws2 = wa at hG3 hf3 ⊢
    have hfr3 : fr tr4 ws wa := (hfr.mono (ks2 := tr4) (by decide)).trans (hf3.mono (ks2 := tr4) (by decide))
    have hT3 := hT1.fr hf3 (by decide)
    have hs3 := hf3.get (by decide) hs1
    have hq3 := hf3.get (by decide) hq1
    have hO3 := hf3.get (by decide) hO2
    have hl3 := hl2.fr hf3 (by decide)
    have hJ3 := MJ_king hJ hfr3 (by decide) hG3 (by decide)
    clear hO2 hl2 hK2 hG2 hT1 hs1 hq1
    have hkg1 := agedP_lt (K := K) hkg
    have hat : actT n (agedP n K kg) (Ln (mm - 1)) act < 10 ^ n := by
      unfold actT
      split
      · exact hla
      · exact withP_lt hla (by omega) (dg_lt _ _)
    -- the years
    have years : ∀ (L : List Nat) (wz : List CE) (x2 : Int32), goodT n L → TI wz L → AI wz 31 4 4 (dg (agedP n K kg)) → AI wz 33 4 4 (dg kg) → fr tr4 ws wz → L = startT n K nj Js (agedP n K kg) (Ln (mm - 1)) act → V p l e (rmm 8 0 0) s m args below meth c 0 0 (MQ below (QQ G A (pI ad (fun r ws2 => r = foundI (truthT n K nj Js kg (Ln (mm - 1)) act) ∧ AI ws2 31 4 4 (dg kg) ∧ AI ws2 33 4 4 (dg kg) ∧ (∃ fs1 fq1, ws2[37]? = some (iA 10000 fs1) ∧ ws2[38]? = some (iA 10000 fq1)) ∧ fr tr4 ws ws2))) args s 0 0 A) G A 10 ad wz 99 [some (.ref 29), some (.int (nI act)), some (.int x2), some (.int (nI L.length)), none, none, none, none, none, none] [] := by
      intro L0 wz0 x2 hg0 hT0 hG0 hH0 hf0 hL0
      refine V_ldc X dX12_truthBy_99 w_1039 ?_
      refine V_istore_4 X dX12_truthBy_101 (Nat.le_of_ble_eq_true rfl) rfl ?_
      refine V_iconstE X (nI 1) dX12_truthBy_103 (by decide +kernel) ?_
      refine V_istore_5 X dX12_truthBy_104 (Nat.le_of_ble_eq_true rfl) rfl ?_
      refine V_loop (fun k wz lv2 => ∃ (y kc : Nat) (L : List Nat) (o : Option Nat) (w6 w7 w8 w9 : Option Value), y + k = 13 ∧ 1 ≤ y ∧ kc < 10 ^ n ∧ goodT n L ∧ TI wz L ∧ AI wz 31 4 4 (dg kc) ∧ AI wz 33 4 4 (dg kg) ∧ fr tr4 ws wz ∧ ((o = none ∧ runT n K nj Js k y kc L = truthT n K nj Js kg (Ln (mm - 1)) act) ∨ (o = truthT n K nj Js kg (Ln (mm - 1)) act ∧ ∃ y0, o = some y0 ∧ y0 < 13)) ∧ lv2 = [some (.ref 29), some (.int (nI act)), some (.int x2), some (.int (nI L.length)), some (.int (foundI o)), some (.int (nI y)), w6, w7, w8, w9]) 12 ⟨1, _, L0, none, none, none, none, none, by omega, by omega, hkg1, hg0, hT0, hG0, hH0, hf0, Or.inl ⟨rfl, by rw [hL0]; rfl⟩, rfl⟩ ?_
      clear hT0 hG0 hH0 hf0 hg0 hL0
      rintro k wz _ ⟨y, kc, L, o, w6, w7, w8, w9, hy, hy1, hkc, hgL, hTL, hG, hH, hfr, hres, rfl⟩ ih
      have hO4 := hfr.get (by decide) hO
      have hl4 := hl.fr hfr (by decide)
      have hJ4 := MJ_king hJ hfr (by decide) hG (by decide)
      have hLl := goodT_len hgL
      have stop : ∀ (w5 w6 w7 w8 w9 : Option Value), foundI o = foundI (truthT n K nj Js kg (Ln (mm - 1)) act) → V p l e (rmm 8 0 0) s m args below meth c 0 0 (MQ below (QQ G A (pI ad (fun r ws2 => r = foundI (truthT n K nj Js kg (Ln (mm - 1)) act) ∧ AI ws2 31 4 4 (dg kg) ∧ AI ws2 33 4 4 (dg kg) ∧ (∃ fs1 fq1, ws2[37]? = some (iA 10000 fs1) ∧ ws2[38]? = some (iA 10000 fq1)) ∧ fr tr4 ws ws2))) args s 0 0 A) G A 10 ad wz 250 [some (.ref 29), some (.int (nI act)), some (.int x2), some (.int (nI L.length)), some (.int (foundI o)), w5, w6, w7, w8, w9] [] := by
        intro w5 w6 w7 w8 w9 ho
        obtain ⟨fg, hg1, -⟩ := hG
        refine V_aload_n0 X dX12_truthBy_250 ?_
        refine V_cV0V X dX12_truthBy_251 kX12_134 (m_putBack l G ad wz hO4 kg hH fg hg1) (by assumption) (by rfl) (Nat.le_of_ble_eq_true rfl) ⟨⟨Nat.le_of_ble_eq_true rfl, Nat.le_of_ble_eq_true rfl⟩, Nat.le_of_ble_eq_true rfl, Nat.le_of_ble_eq_true rfl⟩ (fun ws2 hc => ?_)
        obtain ⟨hGb, hfb⟩ := hc
        generalize ws2 = wb at hGb hfb ⊢
        refine V_iload_4 X dX12_truthBy_254 ?_
        obtain ⟨fs, fq, t1, t2, -⟩ := hTL
        exact V_iret X dX12_truthBy_256 ⟨ho, hGb, hH.fr hfb (by decide), ⟨fs, fq, hfb.get (by decide) t1, hfb.get (by decide) t2⟩, hfr.trans (hfb.mono (ks2 := tr4) (by decide))⟩
      refine V_iload_5 X dX12_truthBy_106 ?_
      refine V_bipushE X (nI 13) dX12_truthBy_108 (by decide +kernel) ?_
      refine V_icmp_ge X 250 dX12_truthBy_110 (by decide) (fun h => ?_) (fun h => ?_)
      · have e9 : 13 ≤ y := c_le h
        refine stop _ _ _ _ _ ?_
        rcases hres with ⟨rfl, hr⟩ | ⟨hr, -⟩
        · rw [← hr, show k = 0 by omega]; rfl
        · rw [hr]
      · have e9 : y < 13 := c_nle h
        refine V_iload_4 X dX12_truthBy_113 ?_
        refine V_ldc X dX12_truthBy_115 w_1039 ?_
        refine V_icmp_ne X 250 dX12_truthBy_117 (by decide) (fun h2 => ?_) (fun h2 => ?_)
        · refine stop _ _ _ _ _ ?_
          rcases hres with ⟨rfl, hr⟩ | ⟨hr, -⟩
          · exact absurd rfl h2
          · rw [hr]
        · rcases hres with ⟨rfl, hr⟩ | ⟨hr, y0, rfl, hy0⟩
          · rw [show k = (k - 1) + 1 by omega, runT] at hr
            refine V_iload_n3 X dX12_truthBy_120 ?_
            refine V_if_le X 250 dX12_truthBy_121 (by decide) (fun h3 => ?_) (fun h3 => ?_)
            · have e8 := c_le0 h3
              rw [if_pos e8] at hr
              exact stop _ _ _ _ _ (by rw [← hr])
            · have e8 := c_nle0 h3
              rw [if_neg (by omega)] at hr
              obtain ⟨fs, fq, t1, t2, t3, t4⟩ := hTL
              refine V_aload_n0 X dX12_truthBy_124 ?_
              refine V_getf X dX12_truthBy_125 fX12_31 (by assumption) (by rfl) ?_
              refine V_aload_n0 X dX12_truthBy_128 ?_
              refine V_cV0I X dX12_truthBy_129 kX12_105 (m_king l G ad wz hO4 h4 kc hG hkc) (by assumption) (by rfl) (Nat.le_of_ble_eq_true rfl) ⟨⟨Nat.le_of_ble_eq_true rfl, Nat.le_of_ble_eq_true rfl⟩, Nat.le_of_ble_eq_true rfl, Nat.le_of_ble_eq_true rfl⟩ (fun r ws2 hc => ?_)
              obtain ⟨rfl, hw9⟩ := hc
              obtain rfl := hw9.symm
              refine V_iald X kc dX12_truthBy_132 (by assumption) rfl (by omega) (by omega) ?_
              rw [t3 kc (by omega)]
              refine V_if_le X 143 dX12_truthBy_133 (by decide) (fun h7 => ?_) (fun h7 => ?_)
              · have e7 : L.contains kc = false := by
                  cases q : L.contains kc
                  · rfl
                  · rw [q] at h7; exact absurd h7 (by decide)
                rw [e7, if_neg (by decide)] at hr
                clear stop
                refine V_aload_n0 X dX12_truthBy_143 ?_
                refine V_cV0V X dX12_truthBy_144 kX12_127 (m_age l G ad wz hO4 h4 K hJ4.2.2.2.2.1 hJ4.2.2.1 kc hG) (by assumption) (by rfl) (Nat.le_of_ble_eq_true rfl) ⟨⟨Nat.le_of_ble_eq_true rfl, Nat.le_of_ble_eq_true rfl⟩, Nat.le_of_ble_eq_true rfl, Nat.le_of_ble_eq_true rfl⟩ (fun ws2 hc => ?_)
                obtain ⟨hG5, hf5⟩ := hc
                generalize ws2 = wa2 at hG5 hf5 ⊢
                have hfr5 : fr tr4 ws wa2 := hfr.trans (hf5.mono (ks2 := tr4) (by decide))
                have hH5 := hH.fr hf5 (by decide)
                have hT5 : TI wa2 L := ⟨fs, fq, hf5.get (by decide) t1, hf5.get (by decide) t2, t3, t4⟩
                have hkc1 := agedP_lt (K := K) hkc
                clear hO4 hl4 hJ4 hG hH hfr t1 t2
                refine V_iload_n3 X dX12_truthBy_147 ?_
                refine V_istore_6 X dX12_truthBy_148 (Nat.le_of_ble_eq_true rfl) rfl ?_
                refine V_iconstE X (nI 0) dX12_truthBy_150 (by decide +kernel) ?_
                refine V_istore_7 X dX12_truthBy_151 (Nat.le_of_ble_eq_true rfl) rfl ?_
                refine V_loop (fun k2 wz lv2 => ∃ (cq : Nat) (L2 : List Nat) (w8 w9 : Option Value), cq + k2 = L.length ∧ L2 = yearTo n K nj Js (agedP n K kc) cq L ∧ TI wz L2 ∧ AI wz 31 4 4 (dg (agedP n K kc)) ∧ AI wz 33 4 4 (dg kg) ∧ fr tr4 ws wz ∧ lv2 = [some (.ref 29), some (.int (nI act)), some (.int x2), some (.int (nI L2.length)), some (.int (foundI none)), some (.int (nI y)), some (.int (nI L.length)), some (.int (nI cq)), w8, w9]) L.length ⟨0, L, w8, w9, by omega, rfl, hT5, hG5, hH5, hfr5, rfl⟩ ?_
                clear hT5 hG5 hH5 hfr5 hf5
                rintro k2 wz _ ⟨cq, L2, w8, w9, hc2, hL2, hTL, hG, hH, hfr, rfl⟩ ih2
                have hO4 := hfr.get (by decide) hO
                have hgL2 : goodT n L2 := by rw [hL2]; exact goodT_year hgL cq (by omega)
                have hLl2 := goodT_len hgL2
                refine V_iload_7 X dX12_truthBy_153 ?_
                refine V_iload_6 X dX12_truthBy_155 ?_
                refine V_icmp_ge X 244 dX12_truthBy_157 (by decide) (fun h8 => ?_) (fun h8 => ?_)
                · have e6 : cq = L.length := by have := c_le h8; omega
                  refine V_iinc_5 X dX12_truthBy_244 (Nat.le_of_ble_eq_true rfl) rfl (inc1 _) ?_
                  refine V_goto X 106 dX12_truthBy_247 (by decide) ?_
                  refine ih (k - 1) _ _ (by omega) ⟨y + 1, agedP n K kc, L2, none, _, _, _, _, by omega, by omega, hkc1, hgL2, hTL, hG, hH, hfr, Or.inl ⟨rfl, ?_⟩, rfl⟩
                  rw [hL2, e6]; exact hr
                · have e6 : cq < L.length := c_nle h8
                  have hgc : L2[cq]? = some L[cq] := by rw [hL2]; exact yearT_get (List.getElem?_eq_getElem e6) cq
                  generalize L[cq] = pc0 at hgc
                  have hpc := hgL2.2 pc0 (List.mem_of_getElem? hgc)
                  have hnx : yearTo n K nj Js (agedP n K kc) (cq + 1) L = rowT n K nj Js (agedP n K kc) pc0 n L2 := by
                    rw [yearTo, ← hL2, List.getD_eq_getElem?_getD, hgc]; rfl
                  refine V_iconstE X (nI 0) dX12_truthBy_160 (by decide +kernel) ?_
                  refine V_istore_8 X dX12_truthBy_161 (Nat.le_of_ble_eq_true rfl) rfl ?_
                  refine V_loop (fun k3 wz lv2 => ∃ (f : Nat) (L3 : List Nat) (w9 : Option Value), f + k3 = n ∧ L3 = rowT n K nj Js (agedP n K kc) pc0 f L2 ∧ TI wz L3 ∧ AI wz 31 4 4 (dg (agedP n K kc)) ∧ AI wz 33 4 4 (dg kg) ∧ fr tr4 ws wz ∧ lv2 = [some (.ref 29), some (.int (nI act)), some (.int x2), some (.int (nI L3.length)), some (.int (foundI none)), some (.int (nI y)), some (.int (nI L.length)), some (.int (nI cq)), some (.int (nI f)), w9]) n ⟨0, L2, w9, by omega, rfl, hTL, hG, hH, hfr, rfl⟩ ?_
                  clear hTL hG hH hfr hO4
                  rintro k3 wz _ ⟨f, L3, w9, hf3, hL3, ⟨fs, fq, t1, t2, t3, t4⟩, hG, hH, hfr, rfl⟩ ih3
                  have hO4 := hfr.get (by decide) hO
                  have hJ4 := MJ_king hJ hfr (by decide) hG (by decide)
                  have hgL3 : goodT n L3 := by rw [hL3]; exact goodT_row hgL2 hpc f (by omega)
                  have hLl3 := goodT_len hgL3
                  have hgc3 : L3[cq]? = some pc0 := by rw [hL3]; exact rowT_get hgc f
                  have hc3 := (List.getElem?_eq_some_iff.mp hgc3).1
                  refine V_iload_8 X dX12_truthBy_163 ?_
                  refine V_aload_n0 X dX12_truthBy_165 ?_
                  refine V_getf X dX12_truthBy_166 fX12_65 (by assumption) (by rfl) ?_
                  refine V_icmp_ge X 238 dX12_truthBy_169 (by decide) (fun h9 => ?_) (fun h9 => ?_)
                  · have e5 : f = n := by have := c_le h9; omega
                    refine V_iinc_7 X dX12_truthBy_238 (Nat.le_of_ble_eq_true rfl) rfl (inc1 _) ?_
                    refine V_goto X 153 dX12_truthBy_241 (by decide) ?_
                    exact ih2 (k2 - 1) _ _ (by omega) ⟨cq + 1, L3, _, _, by omega, by rw [hnx, hL3, e5], ⟨fs, fq, t1, t2, t3, t4⟩, hG, hH, hfr, rfl⟩
                  · have e5 : f < n := c_nle h9
                    have hnx3 : rowT n K nj Js (agedP n K kc) pc0 (f + 1) L2 = tryT n K nj Js (agedP n K kc) pc0 f L3 := by rw [rowT, hL3]
                    have hql := withP_lt (v := dg (agedP n K kc) f) hpc e5 (dg_lt _ _)
                    refine V_aload_n0 X dX12_truthBy_172 ?_
                    refine V_aload_n0 X dX12_truthBy_173 ?_
                    refine V_getf X dX12_truthBy_174 fX12_34 (by assumption) (by rfl) ?_
                    refine V_iload_7 X dX12_truthBy_177 ?_
                    refine V_iald X cq dX12_truthBy_179 (by assumption) rfl (by omega) (by omega) ?_
                    refine V_iload_8 X dX12_truthBy_180 ?_
                    rw [t4 cq pc0 hgc3]
                    refine V_cV2I X dX12_truthBy_182 kX12_176 (m_madeTrue l G ad wz hO4 h4 (agedP n K kc) hG pc0 f (by omega) (by omega)) (by assumption) (by rfl) (Nat.le_of_ble_eq_true rfl) ⟨⟨Nat.le_of_ble_eq_true rfl, Nat.le_of_ble_eq_true rfl⟩, Nat.le_of_ble_eq_true rfl, Nat.le_of_ble_eq_true rfl⟩ (fun r ws2 hc => ?_)
                    obtain ⟨rfl, hw9⟩ := hc
                    obtain rfl := hw9.symm
                    rw [if_neg (by omega)]
                    refine V_istore_9 X dX12_truthBy_185 (Nat.le_of_ble_eq_true rfl) rfl ?_
                    refine V_aload_n0 X dX12_truthBy_187 ?_
                    refine V_getf X dX12_truthBy_188 fX12_31 (by assumption) (by rfl) ?_
                    refine V_iload_9 X dX12_truthBy_191 ?_
                    refine V_iald X (withP pc0 f (dg (agedP n K kc) f)) dX12_truthBy_193 (by assumption) rfl (by omega) (by omega) ?_
                    rw [t3 _ (by omega)]
                    have same : tryT n K nj Js (agedP n K kc) pc0 f L3 = L3 → V p l e (rmm 8 0 0) s m args below meth c 0 0 (MQ below (QQ G A (pI ad (fun r ws2 => r = foundI (truthT n K nj Js kg (Ln (mm - 1)) act) ∧ AI ws2 31 4 4 (dg kg) ∧ AI ws2 33 4 4 (dg kg) ∧ (∃ fs1 fq1, ws2[37]? = some (iA 10000 fs1) ∧ ws2[38]? = some (iA 10000 fq1)) ∧ fr tr4 ws ws2))) args s 0 0 A) G A 10 ad wz 232 [some (.ref 29), some (.int (nI act)), some (.int x2), some (.int (nI L3.length)), some (.int (foundI none)), some (.int (nI y)), some (.int (nI L.length)), some (.int (nI cq)), some (.int (nI f)), some (.int (nI (withP pc0 f (dg (agedP n K kc) f))))] [] := by
                      intro hsm
                      refine V_iinc_8 X dX12_truthBy_232 (Nat.le_of_ble_eq_true rfl) rfl (inc1 _) ?_
                      refine V_goto X 163 dX12_truthBy_235 (by decide) ?_
                      exact ih3 (k3 - 1) _ _ (by omega) ⟨f + 1, L3, _, by omega, by rw [hnx3, hsm], ⟨fs, fq, t1, t2, t3, t4⟩, hG, hH, hfr, rfl⟩
                    refine V_if_ne X 232 dX12_truthBy_194 (by decide) (fun g1 => ?_) (fun g1 => ?_)
                    · have e3 := b_of1 g1
                      exact same (by rw [tryT, e3]; rfl)
                    · have e3 := b_of0 g1
                      have hlt := goodT_lt hgL3 e3 hql
                      refine V_aload_n0 X dX12_truthBy_197 ?_
                      refine V_aload_n0 X dX12_truthBy_198 ?_
                      refine V_getf X dX12_truthBy_199 fX12_34 (by assumption) (by rfl) ?_
                      refine V_iload_7 X dX12_truthBy_202 ?_
                      refine V_iald X cq dX12_truthBy_204 (by assumption) rfl (by omega) (by omega) ?_
                      refine V_iload_9 X dX12_truthBy_205 ?_
                      rw [t4 cq pc0 hgc3]
                      refine V_cV2I X dX12_truthBy_207 kX12_130 (m_isLet l G ad wz hO4 K (agedP n K kc) Js hJ4 pc0 _ (by omega) (by omega)) (by assumption) (by rfl) (Nat.le_of_ble_eq_true rfl) ⟨⟨Nat.le_of_ble_eq_true rfl, Nat.le_of_ble_eq_true rfl⟩, Nat.le_of_ble_eq_true rfl, Nat.le_of_ble_eq_true rfl⟩ (fun r ws2 hc => ?_)
                      obtain ⟨rfl, hw9⟩ := hc
                      obtain rfl := hw9.symm
                      refine V_if_eq X 232 dX12_truthBy_210 (by decide) (fun g2 => ?_) (fun g2 => ?_)
                      · have e2 := b_of0 g2
                        exact same (by rw [tryT, e2, Bool.and_false]; rfl)
                      · have e2 := b_of1 g2
                        refine V_aload_n0 X dX12_truthBy_213 ?_
                        refine V_getf X dX12_truthBy_214 fX12_31 (by assumption) (by rfl) ?_
                        refine V_iload_9 X dX12_truthBy_217 ?_
                        refine V_iconstE X (nI 1) dX12_truthBy_219 (by decide +kernel) ?_
                        refine V_iast X (withP pc0 f (dg (agedP n K kc) f)) dX12_truthBy_220 (by assumption) rfl (by omega) (by omega) ?_
                        have hO5 := gne (k := 37) (e2 := iA 10000 (upd fs (withP pc0 f (dg (agedP n K kc) f)) (nI 1))) (by decide) hO4
                        have t5 := gne (k := 37) (e2 := iA 10000 (upd fs (withP pc0 f (dg (agedP n K kc) f)) (nI 1))) (by decide) t2
                        refine V_aload_n0 X dX12_truthBy_221 ?_
                        refine V_getf X dX12_truthBy_222 fX12_34 (by assumption) (by rfl) ?_
                        refine V_iload_n3 X dX12_truthBy_225 ?_
                        refine V_iload_9 X dX12_truthBy_226 ?_
                        refine V_iast X L3.length dX12_truthBy_228 (by assumption) rfl (by omega) (by omega) ?_
                        refine V_iinc_3 X dX12_truthBy_229 (Nat.le_of_ble_eq_true rfl) rfl (inc1 _) ?_
                        refine V_iinc_8 X dX12_truthBy_232 (Nat.le_of_ble_eq_true rfl) rfl (inc1 _) ?_
                        refine V_goto X 163 dX12_truthBy_235 (by decide) ?_
                        have hfz : fr [37, 38] wz ((wz.set 37 (iA 10000 (upd fs (withP pc0 f (dg (agedP n K kc) f)) (nI 1)))).set 38 (iA 10000 (upd fq L3.length (nI (withP pc0 f (dg (agedP n K kc) f)))))) := (fr.rfl.set (by decide)).set (by decide)
                        refine ih3 (k3 - 1) _ _ (by omega) ⟨f + 1, L3 ++ [withP pc0 f (dg (agedP n K kc) f)], _, by omega, ?_, ⟨_, _, gne (by decide) (gset t1), gset t5, fun p0 hp0 => ?_, fun x z hx => ?_⟩, hG.fr hfz (by decide), hH.fr hfz (by decide), hfr.trans (hfz.mono (by decide)), by rw [List.length_append]; rfl⟩
                        · rw [hnx3, tryT, e3, e2]; rfl
                        · by_cases q : p0 = withP pc0 f (dg (agedP n K kc) f)
                          · rw [q, pk_us]; simp [bI]
                          · rw [pk_un q, t3 p0 hp0]; simp [q]
                        · rcases Nat.lt_trichotomy x L3.length with q | q | q
                          · rw [List.getElem?_append_left q] at hx
                            rw [pk_un (by omega)]; exact t4 x z hx
                          · subst q
                            rw [List.getElem?_concat_length] at hx
                            cases hx
                            rw [pk_us]
                          · rw [List.getElem?_eq_none (by simp; omega)] at hx
                            cases hx
              · have e7 : L.contains kc = true := by
                  cases q : L.contains kc
                  · rw [q] at h7; exact absurd (by decide) h7
                  · rfl
                rw [e7, if_pos rfl] at hr
                refine V_iload_5 X dX12_truthBy_136 ?_
                refine V_istore_4 X dX12_truthBy_138 (Nat.le_of_ble_eq_true rfl) rfl ?_
                refine V_goto X 244 dX12_truthBy_140 (by decide) ?_
                refine V_iinc_5 X dX12_truthBy_244 (Nat.le_of_ble_eq_true rfl) rfl (inc1 _) ?_
                refine V_goto X 106 dX12_truthBy_247 (by decide) ?_
                exact ih (k - 1) _ _ (by omega) ⟨y + 1, kc, L, some y, _, _, _, _, by omega, by omega, hkc, hgL, ⟨fs, fq, t1, t2, t3, t4⟩, hG, hH, hfr, Or.inr ⟨hr, y, rfl, e9⟩, rfl⟩
          · exact absurd h2 (by show ¬ nI y0 = nI 1000000; intro q; have := c_eq q; omega)
    have go : ∀ may : Bool, (may = true ↔ (act = n ∨ agreeP n K nj Js (Ln (mm - 1)) (actT n (agedP n K kg) (Ln (mm - 1)) act) (agedP n K kg) = true)) → V p l e (rmm 8 0 0) s m args below meth c 0 0 (MQ below (QQ G A (pI ad (fun r ws2 => r = foundI (truthT n K nj Js kg (Ln (mm - 1)) act) ∧ AI ws2 31 4 4 (dg kg) ∧ AI ws2 33 4 4 (dg kg) ∧ (∃ fs1 fq1, ws2[37]? = some (iA 10000 fs1) ∧ ws2[38]? = some (iA 10000 fq1)) ∧ fr tr4 ws ws2))) args s 0 0 A) G A 10 ad wa 63 [some (.ref 29), some (.int (nI act)), some (.int (nI 10000)), none, none, none, none, none, none, none] [.int (bI may)] := by
      intro may hmay
      refine V_istore_n2 X dX12_truthBy_63 (Nat.le_of_ble_eq_true rfl) rfl ?_
      refine V_iconstE X (nI 0) dX12_truthBy_64 (by decide +kernel) ?_
      refine V_istore_n3 X dX12_truthBy_65 (Nat.le_of_ble_eq_true rfl) rfl ?_
      refine V_iload_n2 X dX12_truthBy_66 ?_
      refine V_if_eq X 99 dX12_truthBy_67 (by decide) (fun g1 => ?_) (fun g1 => ?_)
      · have e1 := b_of0 g1
        refine years [] wa _ ⟨by simp, fun q hq => by cases hq⟩ ⟨fs, fq0, hs3, hq3, fun p hp => by rw [hs2 p hp]; rfl, fun i q hq => by cases hq⟩ hG3 hT3 hfr3 ?_
        rw [startT, if_neg (fun q => by rw [hmay.mpr q] at e1; cases e1)]
      · have e1 := b_of1 g1
        refine V_aload_n0 X dX12_truthBy_70 ?_
        refine V_getf X dX12_truthBy_71 fX12_34 (by assumption) (by rfl) ?_
        refine V_iconstE X (nI 0) dX12_truthBy_74 (by decide +kernel) ?_
        refine V_aload_n0 X dX12_truthBy_75 ?_
        refine V_aload_n0 X dX12_truthBy_76 ?_
        refine V_cV0I X dX12_truthBy_77 kX12_91 (m_last l G ad wa hO3 hm h6 Ln hl3) (by assumption) (by rfl) (Nat.le_of_ble_eq_true rfl) ⟨⟨Nat.le_of_ble_eq_true rfl, Nat.le_of_ble_eq_true rfl⟩, Nat.le_of_ble_eq_true rfl, Nat.le_of_ble_eq_true rfl⟩ (fun r ws2 hc => ?_)
        obtain ⟨rfl, hw9⟩ := hc
        obtain rfl := hw9.symm
        refine V_iload_n1 X dX12_truthBy_80 ?_
        refine V_cV2I X dX12_truthBy_81 kX12_176 (m_madeTrue l G ad wa hO3 h4 (agedP n K kg) hG3 _ act hact (by omega)) (by assumption) (by rfl) (Nat.le_of_ble_eq_true rfl) ⟨⟨Nat.le_of_ble_eq_true rfl, Nat.le_of_ble_eq_true rfl⟩, Nat.le_of_ble_eq_true rfl, Nat.le_of_ble_eq_true rfl⟩ (fun r ws2 hc => ?_)
        obtain ⟨rfl, hw9⟩ := hc
        obtain rfl := hw9.symm
        refine V_iast X 0 dX12_truthBy_84 (by assumption) rfl (by decide) (by omega) ?_
        have hO4 := gne (k := 38) (e2 := iA 10000 (upd fq0 0 (nI (actT n (agedP n K kg) (Ln (mm - 1)) act)))) (by decide) hO3
        have hs4 := gne (k := 38) (e2 := iA 10000 (upd fq0 0 (nI (actT n (agedP n K kg) (Ln (mm - 1)) act)))) (by decide) hs3
        have hq4 := gset (e2 := iA 10000 (upd fq0 0 (nI (actT n (agedP n K kg) (Ln (mm - 1)) act)))) hq3
        refine V_aload_n0 X dX12_truthBy_85 ?_
        refine V_getf X dX12_truthBy_86 fX12_31 (by assumption) (by rfl) ?_
        refine V_aload_n0 X dX12_truthBy_89 ?_
        refine V_getf X dX12_truthBy_90 fX12_34 (by assumption) (by rfl) ?_
        refine V_iconstE X (nI 0) dX12_truthBy_93 (by decide +kernel) ?_
        refine V_iald X 0 dX12_truthBy_94 (by assumption) rfl (by decide) (by omega) ?_
        rw [pk_us]
        refine V_iconstE X (nI 1) dX12_truthBy_95 (by decide +kernel) ?_
        refine V_iast X (actT n (agedP n K kg) (Ln (mm - 1)) act) dX12_truthBy_96 (by assumption) rfl (by omega) (by omega) ?_
        refine V_iconstE X (nI 1) dX12_truthBy_97 (by decide +kernel) ?_
        refine V_istore_n3 X dX12_truthBy_98 (Nat.le_of_ble_eq_true rfl) rfl ?_
        have hfz : fr [37, 38] wa ((wa.set 38 (iA 10000 (upd fq0 0 (nI (actT n (agedP n K kg) (Ln (mm - 1)) act))))).set 37 (iA 10000 (upd fs (actT n (agedP n K kg) (Ln (mm - 1)) act) (nI 1)))) := (fr.rfl.set (by decide)).set (by decide)
        refine years [actT n (agedP n K kg) (Ln (mm - 1)) act] _ _ ⟨by simp, fun q hq => by simp at hq; rw [hq]; exact hat⟩ ⟨_, _, gset hs4, gne (by decide) hq4, fun p0 hp0 => ?_, fun x z hx => ?_⟩ (hG3.fr hfz (by decide)) (hT3.fr hfz (by decide)) (hfr3.trans (hfz.mono (by decide))) ?_
        · by_cases q : p0 = actT n (agedP n K kg) (Ln (mm - 1)) act
          · rw [q, pk_us]; simp [bI]
          · rw [pk_un q, hs2 p0 hp0]; simp [q, bI]
        · cases x with
          | zero => cases hx; exact pk_us
          | succ x => cases hx
        · rw [startT, if_pos (hmay.mp e1)]
    refine V_iload_n1 X dX12_truthBy_30 ?_
    refine V_aload_n0 X dX12_truthBy_31 ?_
    refine V_getf X dX12_truthBy_32 fX12_65 (by assumption) (by rfl) ?_
    refine V_icmp_eq X 58 dX12_truthBy_35 (by decide) (fun g1 => ?_) (fun g1 => ?_)
    · have e1 : act = n := c_eq g1
      refine V_iconstE X (nI 1) dX12_truthBy_58 (by decide +kernel) ?_
      refine V_goto X 63 dX12_truthBy_59 (by decide) ?_
      exact go true ⟨fun _ => Or.inl e1, fun _ => rfl⟩
    · have e1 : ¬ act = n := c_ne g1
      refine V_aload_n0 X dX12_truthBy_38 ?_
      refine V_aload_n0 X dX12_truthBy_39 ?_
      refine V_cV0I X dX12_truthBy_40 kX12_91 (m_last l G ad wa hO3 hm h6 Ln hl3) (by assumption) (by rfl) (Nat.le_of_ble_eq_true rfl) ⟨⟨Nat.le_of_ble_eq_true rfl, Nat.le_of_ble_eq_true rfl⟩, Nat.le_of_ble_eq_true rfl, Nat.le_of_ble_eq_true rfl⟩ (fun r ws2 hc => ?_)
      obtain ⟨rfl, hw9⟩ := hc
      obtain rfl := hw9.symm
      refine V_aload_n0 X dX12_truthBy_43 ?_
      refine V_aload_n0 X dX12_truthBy_44 ?_
      refine V_cV0I X dX12_truthBy_45 kX12_91 (m_last l G ad wa hO3 hm h6 Ln hl3) (by assumption) (by rfl) (Nat.le_of_ble_eq_true rfl) ⟨⟨Nat.le_of_ble_eq_true rfl, Nat.le_of_ble_eq_true rfl⟩, Nat.le_of_ble_eq_true rfl, Nat.le_of_ble_eq_true rfl⟩ (fun r ws2 hc => ?_)
      obtain ⟨rfl, hw9⟩ := hc
      obtain rfl := hw9.symm
      refine V_iload_n1 X dX12_truthBy_48 ?_
      refine V_cV2I X dX12_truthBy_49 kX12_176 (m_madeTrue l G ad wa hO3 h4 (agedP n K kg) hG3 _ act hact (by omega)) (by assumption) (by rfl) (Nat.le_of_ble_eq_true rfl) ⟨⟨Nat.le_of_ble_eq_true rfl, Nat.le_of_ble_eq_true rfl⟩, Nat.le_of_ble_eq_true rfl, Nat.le_of_ble_eq_true rfl⟩ (fun r ws2 hc => ?_)
      obtain ⟨rfl, hw9⟩ := hc
      obtain rfl := hw9.symm
      refine V_cV2I X dX12_truthBy_52 kX12_130 (m_isLet l G ad wa hO3 K (agedP n K kg) Js hJ3 _ (actT n (agedP n K kg) (Ln (mm - 1)) act) (by omega) (by omega)) (by assumption) (by rfl) (Nat.le_of_ble_eq_true rfl) ⟨⟨Nat.le_of_ble_eq_true rfl, Nat.le_of_ble_eq_true rfl⟩, Nat.le_of_ble_eq_true rfl, Nat.le_of_ble_eq_true rfl⟩ (fun r ws2 hc => ?_)
      obtain ⟨rfl, hw9⟩ := hc
      obtain rfl := hw9.symm
      refine V_if_eq X 62 dX12_truthBy_55 (by decide) (fun g2 => ?_) (fun g2 => ?_)
      · have e2 := b_of0 g2
        refine V_iconstE X (nI 0) dX12_truthBy_62 (by decide +kernel) ?_
        exact go false ⟨fun q => (nomatch q), fun q => (q.elim (fun q => absurd q e1) (fun q => by rw [e2] at q; cases q))⟩
      · have e2 := b_of1 g2
        refine V_iconstE X (nI 1) dX12_truthBy_58 (by decide +kernel) ?_
        refine V_goto X 63 dX12_truthBy_59 (by decide) ?_
        exact go true ⟨fun _ => Or.inr e2, fun _ => rfl⟩
  · have e9 := c_nle h
    refine V_aload_n0 X dX12_truthBy_13 ?_
    refine V_getf X dX12_truthBy_14 fX12_31 (by assumption) (by rfl) ?_
    refine V_iload_n2 X dX12_truthBy_17 ?_
    refine V_iconstE X (nI 0) dX12_truthBy_18 (by decide +kernel) ?_
    refine V_iast X i dX12_truthBy_19 (by assumption) rfl e9 (by omega) ?_
    refine V_iinc_2 X dX12_truthBy_20 (Nat.le_of_ble_eq_true rfl) rfl (inc1 _) ?_
    refine V_goto X 6 dX12_truthBy_23 (by decide) ?_
    have hfz : fr [37] wk (wk.set 37 (iA 10000 (upd fs i (nI 0)))) := fr.rfl.set (by decide)
    refine ih (k - 1) _ _ (by omega) ⟨i + 1, _, by omega, gset hs1, fun p hp => ?_, hT1.fr hfz (by decide), hfr.trans (hfz.mono (by decide)), rfl⟩
    by_cases e : p = i
    · subst e; rw [pk_us]
    · rw [pk_un e]; exact hs2 p (by omega)
