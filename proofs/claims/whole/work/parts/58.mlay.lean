/-! the reference: the order that costs least -/
def sumR (g : Nat → Nat → Nat) (hn : Nat) (R : List Nat) : Nat := sumF (fun k => g (R.getD k 0) (R.getD (k + 1) 0)) (hn - 1)
def betL (g : Nat → Nat → Nat) (hn : Nat) (q : Nat × List Nat) (R : List Nat) : Nat × List Nat := if sumR g hn R < q.1 then (sumR g hn R, R) else q
def layL (g : Nat → Nat → Nat) (hn : Nat) : Nat → Nat × List Nat → List Nat → Nat × List Nat
  | 0, q, _ => q
  | k + 1, q, R => match nextL hn R with
    | none => betL g hn q R
    | some R2 => layL g hn k (betL g hn q R) R2
def endsL (hn : Nat) : Nat → List Nat → Bool
  | 0, _ => false
  | k + 1, R => match nextL hn R with
    | none => true
    | some R2 => endsL hn k R2
def id6 : List Nat := [0, 1, 2, 3, 4, 5]
theorem ends6 : ∀ hn, hn < 7 → endsL hn 720 id6 = true := by decide +kernel
def orderM (n : Nat) (K : Nat → Nat) (hn : Nat) (U : Nat → Nat) : Nat × List Nat := layL (gU n K U) hn 720 (1000000, []) id6
abbrev lay2 : List Nat := [41, 42]
set_option maxHeartbeats 2000000 in
theorem m_layOrder (l : Launch) (G : GX) (ad : Nat → Nat) (ws : List CE) {n mm np : Nat} {rm sa : Int32} {nj tr : Nat} {sd : Int32} {pn hn : Nat} {kl kp kh : Int32} {hs : Int64} (hO : ws[29]? = some (MO n mm np rm sa nj tr sd pn hn kl kp kh hs)) (h4 : n ≤ 4) (K : Nat → Nat) (hk : AI ws 30 4 4 K) (hk5 : ∀ f, f < 4 → K f < 5) (h6 : hn ≤ 6) (U : Nat → Nat) (hU : AI ws 40 6 hn U) (hU4 : ∀ i, i < hn → U i < 10000) (fr0 fb0 : Nat → Int32) (hr0 : ws[41]? = some (iA 6 fr0)) (hb0 : ws[42]? = some (iA 6 fb0)) : Ct l G yX12_layOrder cX12_layOrder 5 (some .int) 4 0 0 ad ws [.ref 29] (pI ad (fun r ws2 => r = nI (orderM n K hn U).1 ∧ (∃ R, RI ws2 41 R) ∧ RI ws2 42 (orderM n K hn U).2 ∧ (orderM n K hn U).1 < 1000000 ∧ fr lay2 ws ws2)) := by
  refine Ct.of [some (.ref 29), none, none, none, none] (by decide +kernel) (Nat.le_of_ble_eq_true rfl) rfl ?_
  intro p e s m args below meth c A X
  obtain ⟨fu, hu1, hu2⟩ := hU
  refine V_ldc X dX12_layOrder_0 w_1039 ?_
  refine V_istore_n1 X dX12_layOrder_2 (Nat.le_of_ble_eq_true rfl) rfl ?_
  refine V_iconstE X (nI 0) dX12_layOrder_3 (by decide +kernel) ?_
  refine V_istore_n2 X dX12_layOrder_4 (Nat.le_of_ble_eq_true rfl) rfl ?_
  refine V_loop (fun k wk lv2 => ∃ i f, i + k = 6 ∧ wk[41]? = some (iA 6 f) ∧ (∀ j, j < i → f j = nI j) ∧ fr [41] ws wk ∧ lv2 = [some (.ref 29), some (.int (nI 1000000)), some (.int (nI i)), none, none]) 6 ⟨0, fr0, by omega, hr0, fun j hj => by omega, fr.rfl, rfl⟩ ?_
  rintro k wk _ ⟨i, f, hi, hs1, hs2, hfr, rfl⟩ ih
  have hO2 := hfr.get (by decide) hO
  refine V_iload_n2 X dX12_layOrder_5 ?_
  refine V_bipushE X (nI 6) dX12_layOrder_6 (by decide +kernel) ?_
  refine V_icmp_ge X 24 dX12_layOrder_8 (by decide) (fun h => ?_) (fun h => ?_)
  · have e9 : i = 6 := by have := c_le h; omega
    subst e9
    clear ih
    have hR0 : RI wk 41 id6 := ⟨f, hs1, fun j hj => by
      rw [hs2 j hj]
      rcases (show j = 0 ∨ j = 1 ∨ j = 2 ∨ j = 3 ∨ j = 4 ∨ j = 5 by omega) with rfl | rfl | rfl | rfl | rfl | rfl <;> rfl⟩
    have hsm0 : smallL hn id6 := ⟨rfl, fun j hj => by
      rcases (show j = 0 ∨ j = 1 ∨ j = 2 ∨ j = 3 ∨ j = 4 ∨ j = 5 by omega) with rfl | rfl | rfl | rfl | rfl | rfl <;> exact hj⟩
    have hb1 := hfr.get (by decide) hb0
    have hfr2 := hfr.mono (ks2 := lay2) (by decide)
    refine V_iconstE X (nI 1) dX12_layOrder_24 (by decide +kernel) ?_
    refine V_istore_n2 X dX12_layOrder_25 (Nat.le_of_ble_eq_true rfl) rfl ?_
    refine V_loop (fun k wz lv2 => ∃ (q : Nat × List Nat) (R : List Nat) (more : Bool) (w3 w4 : Option Value), RI wz 41 R ∧ fr lay2 ws wz ∧ q.1 ≤ 1000000 ∧ ((more = false ∧ q = orderM n K hn U ∧ q.1 < 1000000 ∧ RI wz 42 q.2) ∨ (more = true ∧ smallL hn R ∧ endsL hn k R = true ∧ layL (gU n K U) hn k q R = orderM n K hn U ∧ ((q.1 = 1000000 ∧ ∃ fb, wz[42]? = some (iA 6 fb)) ∨ (q.1 < 1000000 ∧ RI wz 42 q.2)))) ∧ lv2 = [some (.ref 29), some (.int (nI q.1)), some (.int (bI more)), w3, w4] ∧ noL lv2 4 = true) 720 ⟨(1000000, []), id6, true, none, none, hR0, hfr2, Nat.le_refl _, Or.inr ⟨rfl, hsm0, ends6 hn (by omega), rfl, Or.inl ⟨rfl, _, hb1⟩⟩, rfl, rfl⟩ ?_
    clear hR0 hsm0 hb1 hfr2 hfr hO2 hs1 hs2
    rintro k wz _ ⟨q, R, more, w3, w4, hR, hfr, hq6, hst, rfl, hno⟩ ih
    have hO2 := hfr.get (by decide) hO
    have hu3 := hfr.get (by decide) hu1
    have hK2 := hk.fr hfr (by decide)
    refine V_iload_n2 X dX12_layOrder_26 ?_
    refine V_if_eq X 128 dX12_layOrder_27 (by decide) (fun g1 => ?_) (fun g1 => ?_)
    · have e1 := b_of0 g1
      rcases hst with ⟨-, h1, h2, h3⟩ | ⟨h1, -⟩
      · refine V_iload_n1 X dX12_layOrder_128 ?_
        exact V_iret X dX12_layOrder_129 ⟨by rw [h1], ⟨R, hR⟩, by rw [← h1]; exact h3, by rw [← h1]; exact h2, hfr⟩
      · rw [h1] at e1; cases e1
    · have e1 := b_of1 g1
      rcases hst with ⟨h1, -⟩ | ⟨-, hsm, hen, hlay, hb⟩
      · rw [h1] at e1; cases e1
      · subst e1
        have hR9 := hR
        obtain ⟨f, r1, r2⟩ := hR
        have hgs : ∀ m, m ≤ hn - 1 → sumF (fun k => gU n K U (R.getD k 0) (R.getD (k + 1) 0)) m ≤ 200 := fun m hm => by
          have := sumF_le (g := fun k => gU n K U (R.getD k 0) (R.getD (k + 1) 0)) (b := 36) m (fun k _ => by have := gapP_le n K (U (R.getD k 0)) (U (R.getD (k + 1) 0)); show gapP n K _ _ ≤ 36; omega)
          omega
        refine V_iconstE X (nI 0) dX12_layOrder_30 (by decide +kernel) ?_
        refine V_istore_n3 X dX12_layOrder_31 (Nat.le_of_ble_eq_true rfl) rfl ?_
        refine V_iconstE X (nI 1) dX12_layOrder_32 (by decide +kernel) ?_
        refine V_istore_4 X dX12_layOrder_33 (Nat.le_of_ble_eq_true rfl) rfl ?_
        refine V_loopP (fun k2 lv2 => ∃ mq, mq + k2 = hn - 1 ∧ lv2 = [some (.ref 29), some (.int (nI q.1)), some (.int (bI true)), some (.int (nI (sumF (fun k => gU n K U (R.getD k 0) (R.getD (k + 1) 0)) mq))), some (.int (nI (mq + 1)))]) (hn - 1) ⟨0, by omega, rfl⟩ ?_
        rintro k2 _ ⟨mq, hm, rfl⟩ ih2
        have hsu := hgs mq (by omega)
        refine V_iload_4 X dX12_layOrder_35 ?_
        refine V_aload_n0 X dX12_layOrder_37 ?_
        refine V_getf X dX12_layOrder_38 fX12_214 (by assumption) (by rfl) ?_
        refine V_icmp_ge X 83 dX12_layOrder_41 (by decide) (fun g2 => ?_) (fun g2 => ?_)
        · have e2 : mq = hn - 1 := by have := c_le g2; omega
          clear ih2
          have esum : sumF (fun k => gU n K U (R.getD k 0) (R.getD (k + 1) 0)) mq = sumR (gU n K U) hn R := by rw [e2]; rfl
          rw [esum] at hsu ⊢
          obtain ⟨k1, rfl⟩ : ∃ k1, k = k1 + 1 := by
            cases k with
            | zero => cases hen
            | succ k => exact ⟨k, rfl⟩
          -- the end of a turn
          have turn : ∀ (wy : List CE) (w3 : Int32) (w4 : Option Value), RI wy 41 R → fr lay2 ws wy → (betL (gU n K U) hn q R).1 < 1000000 → RI wy 42 (betL (gU n K U) hn q R).2 → V p l e (rmm 4 0 0) s m args below meth c 0 0 (MQ below (QQ G A (pI ad (fun r ws2 => r = nI (orderM n K hn U).1 ∧ (∃ R, RI ws2 41 R) ∧ RI ws2 42 (orderM n K hn U).2 ∧ (orderM n K hn U).1 < 1000000 ∧ fr lay2 ws ws2))) args s 0 0 A) G A 5 ad wy 120 [some (.ref 29), some (.int (nI (betL (gU n K U) hn q R).1)), some (.int (bI true)), some (.int w3), w4] [] := by
            intro wy w3 w4 hRy hfy hlt hby
            have hOy := hfy.get (by decide) hO
            refine V_aload_n0 X dX12_layOrder_120 ?_
            refine V_cV0I X dX12_layOrder_121 kX12_217 (m_nextRow l G ad wy hOy h6 R hRy hsm) (by assumption) (by rfl) (Nat.le_of_ble_eq_true rfl) ⟨⟨Nat.le_of_ble_eq_true rfl, Nat.le_of_ble_eq_true rfl⟩, Nat.le_of_ble_eq_true rfl, Nat.le_of_ble_eq_true rfl⟩ (fun r ws2 hc => ?_)
            obtain ⟨hr, hRn, hfn⟩ := hc
            rw [hr]
            generalize ws2 = wx at hRn hfn ⊢
            have hfx : fr lay2 ws wx := hfy.trans (hfn.mono (ks2 := lay2) (by decide))
            have hbx := hby.fr hfn (by decide)
            refine V_istore_n2 X dX12_layOrder_124 (Nat.le_of_ble_eq_true rfl) rfl ?_
            refine V_goto X 26 dX12_layOrder_125 (by decide) ?_
            rw [endsL] at hen
            rw [layL] at hlay
            cases hnx : nextL hn R with
            | none =>
              rw [hnx] at hlay hRn
              refine ih k1 _ _ (by omega) ⟨betL (gU n K U) hn q R, R, false, _, w4, hRn, hfx, by omega, Or.inl ⟨rfl, hlay, hlt, hbx⟩, rfl, rfl⟩
            | some R2 =>
              rw [hnx] at hlay hRn hen
              refine ih k1 _ _ (by omega) ⟨betL (gU n K U) hn q R, R2, true, _, w4, hRn, hfx, by omega, Or.inr ⟨rfl, smallL_next h6 hsm hnx, hen, hlay, Or.inr ⟨hlt, hbx⟩⟩, rfl, rfl⟩
          refine V_iload_n3 X dX12_layOrder_83 ?_
          refine V_iload_n1 X dX12_layOrder_84 ?_
          refine V_icmp_ge X 120 dX12_layOrder_85 (by decide) (fun g3 => ?_) (fun g3 => ?_)
          · have e3 : q.1 ≤ sumR (gU n K U) hn R := c_le g3
            have eb : betL (gU n K U) hn q R = q := by rw [betL, if_neg (by omega)]
            rcases hb with ⟨hb1, -⟩ | ⟨hb1, hb2⟩
            · omega
            · have := turn wz (nI (sumR (gU n K U) hn R)) (some (.int (nI (mq + 1)))) hR9 hfr (by rw [eb]; exact hb1) (by rw [eb]; exact hb2)
              rw [eb] at this
              exact this
          · have e3 : sumR (gU n K U) hn R < q.1 := c_nle g3
            have eb : betL (gU n K U) hn q R = (sumR (gU n K U) hn R, R) := by rw [betL, if_pos e3]
            obtain ⟨fb, hb1⟩ : ∃ fb, wz[42]? = some (iA 6 fb) := by
              rcases hb with ⟨-, hb1⟩ | ⟨-, fb, hb1, -⟩
              · exact hb1
              · exact ⟨fb, hb1⟩
            refine V_iload_n3 X dX12_layOrder_88 ?_
            refine V_istore_n1 X dX12_layOrder_89 (Nat.le_of_ble_eq_true rfl) rfl ?_
            refine V_iconstE X (nI 0) dX12_layOrder_90 (by decide +kernel) ?_
            refine V_istore_4 X dX12_layOrder_91 (Nat.le_of_ble_eq_true rfl) rfl ?_
            refine V_loop (fun k3 wy lv2 => ∃ i fb, i + k3 = 6 ∧ wy[42]? = some (iA 6 fb) ∧ (∀ j, j < i → fb j = nI (R.getD j 0)) ∧ RI wy 41 R ∧ fr lay2 ws wy ∧ lv2 = [some (.ref 29), some (.int (nI (sumR (gU n K U) hn R))), some (.int (bI true)), some (.int (nI (sumR (gU n K U) hn R))), some (.int (nI i))]) 6 ⟨0, fb, by omega, hb1, fun j hj => by omega, hR9, hfr, rfl⟩ ?_
            rintro k3 wy _ ⟨i, fb2, hi3, y1, y2, hRy, hfy, rfl⟩ ih3
            have hOy := hfy.get (by decide) hO
            refine V_iload_4 X dX12_layOrder_93 ?_
            refine V_bipushE X (nI 6) dX12_layOrder_95 (by decide +kernel) ?_
            refine V_icmp_ge X 120 dX12_layOrder_97 (by decide) (fun g4 => ?_) (fun g4 => ?_)
            · have e4 : i = 6 := by have := c_le g4; omega
              subst e4
              have := turn wy (nI (sumR (gU n K U) hn R)) (some (.int (nI 6))) hRy hfy (by rw [eb]; show sumR _ _ _ < _; omega) (by rw [eb]; exact ⟨fb2, y1, y2⟩)
              rw [eb] at this
              exact this
            · have e4 : i < 6 := c_nle g4
              have hRy9 := hRy
              obtain ⟨fy, z1, z2⟩ := hRy
              refine V_aload_n0 X dX12_layOrder_100 ?_
              refine V_getf X dX12_layOrder_101 fX12_46 (by assumption) (by rfl) ?_
              refine V_iload_4 X dX12_layOrder_104 ?_
              refine V_aload_n0 X dX12_layOrder_106 ?_
              refine V_getf X dX12_layOrder_107 fX12_43 (by assumption) (by rfl) ?_
              refine V_iload_4 X dX12_layOrder_110 ?_
              refine V_iald X i dX12_layOrder_112 (by assumption) rfl e4 (by omega) ?_
              refine V_iast X i dX12_layOrder_113 (by assumption) rfl e4 (by omega) ?_
              refine V_iinc_4 X dX12_layOrder_114 (Nat.le_of_ble_eq_true rfl) rfl (inc1 _) ?_
              refine V_goto X 93 dX12_layOrder_117 (by decide) ?_
              have hfz : fr [42] wy (wy.set 42 (iA 6 (upd fb2 i (fy i)))) := fr.rfl.set (by decide)
              refine ih3 (k3 - 1) _ _ (by omega) ⟨i + 1, _, by omega, gset y1, fun j hj => ?_, hRy9.fr hfz (by decide), hfy.trans (hfz.mono (ks2 := lay2) (by decide)), rfl⟩
              by_cases e : j = i
              · subst e; rw [pk_us]; exact z2 _ e4
              · rw [pk_un e]; exact y2 j (by omega)
        · have e2 : mq + 1 < hn := c_nle g2
          have p1 := hsm.2 mq (by omega)
          have p2 := hsm.2 (mq + 1) e2
          have u1 := hU4 _ p1
          have u2 := hU4 _ p2
          refine V_iload_n3 X dX12_layOrder_44 ?_
          refine V_aload_n0 X dX12_layOrder_45 ?_
          refine V_aload_n0 X dX12_layOrder_46 ?_
          refine V_getf X dX12_layOrder_47 fX12_40 (by assumption) (by rfl) ?_
          refine V_aload_n0 X dX12_layOrder_50 ?_
          refine V_getf X dX12_layOrder_51 fX12_43 (by assumption) (by rfl) ?_
          refine V_iload_4 X dX12_layOrder_54 ?_
          refine V_iconstE X (nI 1) dX12_layOrder_56 (by decide +kernel) ?_
          refine V_isub X dX12_layOrder_57 ?_
          refine V_iald X mq dX12_layOrder_58 (by assumption) (pk_sub (by omega)) (by omega) (by omega) ?_
          refine V_iald X (R.getD mq 0) dX12_layOrder_59 (by assumption) (r2 mq (by omega)) (by omega) (by omega) ?_
          rw [hu2 _ p1]
          refine V_aload_n0 X dX12_layOrder_60 ?_
          refine V_getf X dX12_layOrder_61 fX12_40 (by assumption) (by rfl) ?_
          refine V_aload_n0 X dX12_layOrder_64 ?_
          refine V_getf X dX12_layOrder_65 fX12_43 (by assumption) (by rfl) ?_
          refine V_iload_4 X dX12_layOrder_68 ?_
          refine V_iald X (mq + 1) dX12_layOrder_70 (by assumption) rfl (by omega) (by omega) ?_
          refine V_iald X (R.getD (mq + 1) 0) dX12_layOrder_71 (by assumption) (r2 (mq + 1) (by omega)) (by omega) (by omega) ?_
          rw [hu2 _ p2]
          refine V_cV2I X dX12_layOrder_72 kX12_121 (m_apartOf l G ad wz hO2 h4 K hK2 hk5 _ _ (by omega) (by omega)) (by assumption) (by rfl) (Nat.le_of_ble_eq_true rfl) ⟨⟨Nat.le_of_ble_eq_true rfl, Nat.le_of_ble_eq_true rfl⟩, Nat.le_of_ble_eq_true rfl, Nat.le_of_ble_eq_true rfl⟩ (fun r ws2 hc => ?_)
          obtain ⟨rfl, hw9⟩ := hc
          obtain rfl := hw9.symm
          refine V_iadd X dX12_layOrder_75 ?_
          refine V_istore_n3 X dX12_layOrder_76 (Nat.le_of_ble_eq_true rfl) rfl ?_
          refine V_iinc_4 X dX12_layOrder_77 (Nat.le_of_ble_eq_true rfl) rfl (inc1 _) ?_
          refine V_goto X 35 dX12_layOrder_80 (by decide) ?_
          exact ih2 (k2 - 1) _ (by omega) ⟨mq + 1, by omega, by rw [nI_add]; rfl⟩
  · have e9 := c_nle h
    refine V_aload_n0 X dX12_layOrder_11 ?_
    refine V_getf X dX12_layOrder_12 fX12_43 (by assumption) (by rfl) ?_
    refine V_iload_n2 X dX12_layOrder_15 ?_
    refine V_iload_n2 X dX12_layOrder_16 ?_
    refine V_iast X i dX12_layOrder_17 (by assumption) rfl e9 (by omega) ?_
    refine V_iinc_2 X dX12_layOrder_18 (Nat.le_of_ble_eq_true rfl) rfl (inc1 _) ?_
    refine V_goto X 5 dX12_layOrder_21 (by decide) ?_
    refine ih (k - 1) _ _ (by omega) ⟨i + 1, _, by omega, gset hs1, fun j hj => ?_, hfr.set (by decide), rfl⟩
    by_cases e : j = i
    · subst e; rw [pk_us]
    · rw [pk_un e]; exact hs2 j (by omega)
def tellO (n : Nat) (K : Nat → Nat) (hn : Nat) (U : Nat → Nat) (x : Nat) : Int32 := if x = 0 then nI (orderM n K hn U).1 else if x - 10 < hn then nI ((orderM n K hn U).2.getD (x - 10) 0) else (-1)
theorem m_tellOrder (l : Launch) (G : GX) (ad : Nat → Nat) (ws : List CE) {n mm np : Nat} {rm sa : Int32} {nj tr : Nat} {sd : Int32} {pn hn : Nat} {kl kp kh : Int32} {hs : Int64} (hO : ws[29]? = some (MO n mm np rm sa nj tr sd pn hn kl kp kh hs)) (h4 : n ≤ 4) (K : Nat → Nat) (hk : AI ws 30 4 4 K) (hk5 : ∀ f, f < 4 → K f < 5) (h6 : hn ≤ 6) (U : Nat → Nat) (hU : AI ws 40 6 hn U) (hU4 : ∀ i, i < hn → U i < 10000) (fr0 fb0 : Nat → Int32) (hr0 : ws[41]? = some (iA 6 fr0)) (hb0 : ws[42]? = some (iA 6 fb0)) (x : Nat) (hx : x = 0 ∨ (10 ≤ x ∧ x < 16)) : Ct l G yX12_tellOrder cX12_tellOrder 3 (some .int) 5 0 0 ad ws [.ref 29, .int (nI x)] (pI ad (fun r ws2 => r = tellO n K hn U x ∧ (∃ f, ws2[41]? = some (iA 6 f)) ∧ (∃ f, ws2[42]? = some (iA 6 f)) ∧ fr lay2 ws ws2)) := by
  refine Ct.of [some (.ref 29), some (.int (nI x)), none] (by decide +kernel) (Nat.le_of_ble_eq_true rfl) rfl ?_
  intro p e s m args below meth c A X
  refine V_aload_n0 X dX12_tellOrder_0 ?_
  refine V_cV0I X dX12_tellOrder_1 kX12_220 (m_layOrder l G ad ws hO h4 K hk hk5 h6 U hU hU4 fr0 fb0 hr0 hb0) (by assumption) (by rfl) (Nat.le_of_ble_eq_true rfl) ⟨⟨Nat.le_of_ble_eq_true rfl, Nat.le_of_ble_eq_true rfl⟩, Nat.le_of_ble_eq_true rfl, Nat.le_of_ble_eq_true rfl⟩ (fun r ws2 hc => ?_)
  obtain ⟨rfl, ⟨R, fR, hR1, -⟩, ⟨fb, hb1, hb2⟩, hlt, hfr⟩ := hc
  generalize ws2 = wz at hR1 hb1 hfr ⊢
  have hO2 := hfr.get (by decide) hO
  refine V_istore_n2 X dX12_tellOrder_4 (Nat.le_of_ble_eq_true rfl) rfl ?_
  refine V_iload_n1 X dX12_tellOrder_5 ?_
  refine V_if_ne X 13 dX12_tellOrder_6 (by decide) (fun h => ?_) (fun h => ?_)
  · have e9 := c_ne0 h
    refine V_iload_n1 X dX12_tellOrder_13 ?_
    refine V_bipushE X (nI 10) dX12_tellOrder_14 (by decide +kernel) ?_
    refine V_isub X dX12_tellOrder_16 ?_
    refine V_aload_n0 X dX12_tellOrder_17 ?_
    refine V_getf X dX12_tellOrder_18 fX12_214 (by assumption) (by rfl) ?_
    rw [pk_sub (by omega)]
    refine V_icmp_ge X 36 dX12_tellOrder_21 (by decide) (fun h2 => ?_) (fun h2 => ?_)
    · have e8 := c_le h2
      refine V_iconstE X (-1) dX12_tellOrder_36 (by decide +kernel) ?_
      exact V_iret X dX12_tellOrder_37 ⟨by rw [tellO, if_neg (by omega), if_neg (by omega)], ⟨_, hR1⟩, ⟨_, hb1⟩, hfr⟩
    · have e8 := c_nle h2
      refine V_aload_n0 X dX12_tellOrder_24 ?_
      refine V_getf X dX12_tellOrder_25 fX12_46 (by assumption) (by rfl) ?_
      refine V_iload_n1 X dX12_tellOrder_28 ?_
      refine V_bipushE X (nI 10) dX12_tellOrder_29 (by decide +kernel) ?_
      refine V_isub X dX12_tellOrder_31 ?_
      refine V_iald X (x - 10) dX12_tellOrder_32 (by assumption) (pk_sub (by omega)) (by omega) (by omega) ?_
      refine V_goto X 37 dX12_tellOrder_33 (by decide) ?_
      exact V_iret X dX12_tellOrder_37 ⟨by rw [tellO, if_neg (by omega), if_pos e8, hb2 _ (by omega)], ⟨_, hR1⟩, ⟨_, hb1⟩, hfr⟩
  · have e9 := c_eq0 h
    refine V_iload_n2 X dX12_tellOrder_9 ?_
    refine V_goto X 37 dX12_tellOrder_10 (by decide) ?_
    exact V_iret X dX12_tellOrder_37 ⟨by rw [tellO, if_pos e9], ⟨_, hR1⟩, ⟨_, hb1⟩, hfr⟩
theorem m_copy (l : Launch) (G : GX) (ad : Nat → Nat) (ws : List CE) (ka kb N : Nat) (fa fb : Nat → Int32) (hN : N < 1000) (hab : kb ≠ ka) (ha : ws[ka]? = some (iA N fa)) (hb : ws[kb]? = some (iA N fb)) : Ct l G yX12_copy cX12_copy 3 none 0 0 0 ad ws [.ref ka, .ref kb] (pV ad (fun ws2 => (∃ fc, ws2[kb]? = some (iA N fc) ∧ ∀ i, i < N → fc i = fa i) ∧ fr [kb] ws ws2)) := by
  refine Ct.of [some (.ref ka), some (.ref kb), none] (by decide +kernel) (Nat.le_of_ble_eq_true rfl) rfl ?_
  intro p e s m args below meth c A X
  refine V_iconstE X (nI 0) dX12_copy_0 (by decide +kernel) ?_
  refine V_istore_n2 X dX12_copy_1 (Nat.le_of_ble_eq_true rfl) rfl ?_
  refine V_loop (fun k wk lv2 => ∃ i fc, i + k = N ∧ wk[kb]? = some (iA N fc) ∧ (∀ j, j < i → fc j = fa j) ∧ fr [kb] ws wk ∧ lv2 = [some (.ref ka), some (.ref kb), some (.int (nI i))]) N ⟨0, fb, by omega, hb, fun j hj => by omega, fr.rfl, rfl⟩ ?_
  rintro k wk _ ⟨i, fc, hi, hs1, hs2, hfr, rfl⟩ ih
  have ha2 := hfr.get (by simp [Ne.symm hab]) ha
  refine V_iload_n2 X dX12_copy_2 ?_
  refine V_aload_n0 X dX12_copy_3 ?_
  refine V_alen X dX12_copy_4 (by assumption) ?_
  refine V_icmp_ge X 20 dX12_copy_5 (by decide) (fun h => ?_) (fun h => ?_)
  · have e9 : i = N := by have := c_le h; omega
    subst e9
    exact V_vret X dX12_copy_20 ⟨⟨fc, hs1, hs2⟩, hfr⟩
  · have e9 := c_nle h
    refine V_aload_n1 X dX12_copy_8 ?_
    refine V_iload_n2 X dX12_copy_9 ?_
    refine V_aload_n0 X dX12_copy_10 ?_
    refine V_iload_n2 X dX12_copy_11 ?_
    refine V_iald X i dX12_copy_12 (by assumption) rfl e9 (by omega) ?_
    refine V_iast X i dX12_copy_13 (by assumption) rfl e9 (by omega) ?_
    refine V_iinc_2 X dX12_copy_14 (Nat.le_of_ble_eq_true rfl) rfl (inc1 _) ?_
    refine V_goto X 2 dX12_copy_17 (by decide) ?_
    refine ih (k - 1) _ _ (by omega) ⟨i + 1, _, by omega, gset hs1, fun j hj => ?_, hfr.set (by simp), rfl⟩
    by_cases e : j = i
    · subst e; rw [pk_us]
    · rw [pk_un e]; exact hs2 j (by omega)
