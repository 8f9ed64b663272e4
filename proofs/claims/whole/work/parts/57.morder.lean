/-! the reference: orders -/
def pivL (R : List Nat) : Nat → Option Nat
  | 0 => none
  | i + 1 => if R.getD (i + 1) 0 < R.getD i 0 then pivL R i else some i
def swpL (R : List Nat) (v : Nat) : Nat → Nat
  | 0 => 0
  | j + 1 => if R.getD (j + 1) 0 < v then swpL R v j else j + 1
def swapL (R : List Nat) (i j : Nat) : List Nat := (R.set i (R.getD j 0)).set j (R.getD i 0)
def revL : Nat → Nat → Nat → List Nat → List Nat
  | 0, _, _, R => R
  | k + 1, a, b, R => if a < b then revL k (a + 1) (b - 1) (swapL R a b) else R
def nextL (hn : Nat) (R : List Nat) : Option (List Nat) := match pivL R (hn - 1) with
  | none => none
  | some i => some (revL 6 (i + 1) (hn - 1) (swapL R i (swpL R (R.getD i 0) (hn - 1))))
def smallL (hn : Nat) (R : List Nat) : Prop := R.length = 6 ∧ ∀ k, k < hn → R.getD k 0 < hn
theorem getD_set (R : List Nat) {i : Nat} (x k : Nat) (hi : i < R.length) : (R.set i x).getD k 0 = if k = i then x else R.getD k 0 := by
  rw [List.getD_eq_getElem?_getD, List.getElem?_set, List.getD_eq_getElem?_getD]
  by_cases h : i = k
  · subst h; rw [if_pos rfl, if_pos hi, if_pos rfl]; rfl
  · rw [if_neg h, if_neg (fun e => h e.symm)]
theorem smallL_swap {hn : Nat} {R : List Nat} {i j : Nat} (h6 : hn ≤ 6) (h : smallL hn R) (hi : i < hn) (hj : j < hn) : smallL hn (swapL R i j) := by
  obtain ⟨h1, h2⟩ := h
  refine ⟨by simp [swapL, h1], fun k hk => ?_⟩
  rw [swapL, getD_set _ _ _ (by rw [List.length_set]; omega), getD_set _ _ _ (by omega)]
  split
  · exact h2 i hi
  · split
    · exact h2 j hj
    · exact h2 k hk
theorem smallL_rev {hn : Nat} (h6 : hn ≤ 6) : ∀ (k a b : Nat) {R : List Nat}, smallL hn R → b < hn → smallL hn (revL k a b R)
  | 0, _, _, _, h, _ => h
  | k + 1, a, b, R, h, hb => by
    rw [revL]
    split
    · exact smallL_rev h6 k (a + 1) (b - 1) (smallL_swap h6 h (by omega) hb) (by omega)
    · exact h
theorem pivL_lt {R : List Nat} : ∀ {m i : Nat}, pivL R m = some i → i < m
  | 0, i, h => by cases h
  | m + 1, i, h => by
    rw [pivL] at h
    split at h
    · have := pivL_lt h; omega
    · cases h; omega
theorem swpL_le (R : List Nat) (v : Nat) : ∀ j, swpL R v j ≤ j
  | 0 => Nat.le_refl _
  | j + 1 => by rw [swpL]; split; exact Nat.le_succ_of_le (swpL_le R v j); exact Nat.le_refl _
theorem smallL_next {hn : Nat} {R R2 : List Nat} (h6 : hn ≤ 6) (h : smallL hn R) (hx : nextL hn R = some R2) : smallL hn R2 := by
  unfold nextL at hx
  cases hp : pivL R (hn - 1) with
  | none => rw [hp] at hx; cases hx
  | some i =>
    rw [hp] at hx
    have h1 := pivL_lt hp
    have h2 := swpL_le R (R.getD i 0) (hn - 1)
    cases hx
    exact smallL_rev h6 6 (i + 1) (hn - 1) (smallL_swap h6 h (by omega) (by omega)) (by omega)
def RI (ws : List CE) (k : Nat) (R : List Nat) : Prop := ∃ f : Nat → Int32, ws[k]? = some (iA 6 f) ∧ ∀ i, i < 6 → f i = nI (R.getD i 0)
theorem RI.fr {ks : List Nat} {ws ws2 : List CE} {k : Nat} {R : List Nat} (h : RI ws k R) (hf : fr ks ws ws2) (hk : k ∉ ks) : RI ws2 k R := by
  obtain ⟨f, h1, h2⟩ := h
  exact ⟨f, hf.get hk h1, h2⟩
theorem swap_arr {R : List Nat} {f : Nat → Int32} {i j : Nat} (hl : R.length = 6) (hi : i < 6) (hj : j < 6) (h : ∀ k, k < 6 → f k = nI (R.getD k 0)) : ∀ k, k < 6 → upd (upd f i (nI (R.getD j 0))) j (nI (R.getD i 0)) k = nI ((swapL R i j).getD k 0) := by
  intro k hk
  rw [swapL, getD_set _ _ _ (by rw [List.length_set]; omega), getD_set _ _ _ (by omega)]
  by_cases e : k = j
  · subst e; rw [pk_us, if_pos rfl]
  · rw [pk_un e, if_neg e]
    by_cases e2 : k = i
    · subst e2; rw [pk_us, if_pos rfl]
    · rw [pk_un e2, if_neg e2]; exact h k hk
theorem dec1 (m : Nat) : nI (m + 1) + Int32.ofInt (-1) = nI m := pk_m1 m
set_option maxHeartbeats 2000000 in
theorem m_nextRow (l : Launch) (G : GX) (ad : Nat → Nat) (ws : List CE) {n mm np : Nat} {rm sa : Int32} {nj tr : Nat} {sd : Int32} {pn hn : Nat} {kl kp kh : Int32} {hs : Int64} (hO : ws[29]? = some (MO n mm np rm sa nj tr sd pn hn kl kp kh hs)) (h6 : hn ≤ 6) (R : List Nat) (hR : RI ws 41 R) (hsm : smallL hn R) : Ct l G yX12_nextRow cX12_nextRow 6 (some .boolean) 0 0 0 ad ws [.ref 29] (pI ad (fun r ws2 => r = bI (nextL hn R).isSome ∧ RI ws2 41 ((nextL hn R).getD R) ∧ fr [41] ws ws2)) := by
  refine Ct.of [some (.ref 29), none, none, none, none, none] (by decide +kernel) (Nat.le_of_ble_eq_true rfl) rfl ?_
  intro p e s m args below meth c A X
  have hR0 := hR
  obtain ⟨f, hf1, hf2⟩ := hR
  obtain ⟨hl6, hs⟩ := hsm
  refine V_aload_n0 X dX12_nextRow_0 ?_
  refine V_getf X dX12_nextRow_1 fX12_214 (by assumption) (by rfl) ?_
  refine V_iconstE X (nI 2) dX12_nextRow_4 (by decide +kernel) ?_
  refine V_isub X dX12_nextRow_5 ?_
  refine V_istore_n1 X dX12_nextRow_6 (Nat.le_of_ble_eq_true rfl) rfl ?_
  have found : ∀ i, pivL R (hn - 1) = some i → i + 1 < hn → R.getD i 0 ≤ R.getD (i + 1) 0 → V p l e (rmm 0 0 0) s m args below meth c 0 0 (MQ below (QQ G A (pI ad (fun r ws2 => r = bI (nextL hn R).isSome ∧ RI ws2 41 ((nextL hn R).getD R) ∧ fr [41] ws ws2))) args s 0 0 A) G A 6 ad ws 34 [some (.ref 29), some (.int (nI i)), none, none, none, none] [] := by
    intro i hp hi hle
    have hri := hs i (by omega)
    refine V_iload_n1 X dX12_nextRow_34 ?_
    refine V_if_ge X 40 dX12_nextRow_35 (by decide) (fun h => ?_) (fun h => ?_)
    · refine V_aload_n0 X dX12_nextRow_40 ?_
      refine V_getf X dX12_nextRow_41 fX12_214 (by assumption) (by rfl) ?_
      refine V_iconstE X (nI 1) dX12_nextRow_44 (by decide +kernel) ?_
      refine V_isub X dX12_nextRow_45 ?_
      refine V_istore_n2 X dX12_nextRow_46 (Nat.le_of_ble_eq_true rfl) rfl ?_
      rw [pk_sub (by omega)]
      have hsl := swpL_le R (R.getD i 0) (hn - 1)
      refine V_loopP (fun k lv2 => ∃ j, j = k ∧ i ≤ j ∧ j < hn ∧ swpL R (R.getD i 0) j = swpL R (R.getD i 0) (hn - 1) ∧ lv2 = [some (.ref 29), some (.int (nI i)), some (.int (nI j)), none, none, none]) (hn - 1) ⟨hn - 1, rfl, by omega, by omega, rfl, rfl⟩ ?_
      rintro k _ ⟨j, rfl, hij, hjh, hsw, rfl⟩ ih
      have hrj := hs j hjh
      refine V_aload_n0 X dX12_nextRow_47 ?_
      refine V_getf X dX12_nextRow_48 fX12_43 (by assumption) (by rfl) ?_
      refine V_iload_n2 X dX12_nextRow_51 ?_
      refine V_iald X j dX12_nextRow_52 (by assumption) rfl (by omega) (by omega) ?_
      refine V_aload_n0 X dX12_nextRow_53 ?_
      refine V_getf X dX12_nextRow_54 fX12_43 (by assumption) (by rfl) ?_
      refine V_iload_n1 X dX12_nextRow_57 ?_
      refine V_iald X i dX12_nextRow_58 (by assumption) rfl (by omega) (by omega) ?_
      rw [hf2 j (by omega), hf2 i (by omega)]
      refine V_icmp_ge X 68 dX12_nextRow_59 (by decide) (fun h2 => ?_) (fun h2 => ?_)
      · have e9 : R.getD i 0 ≤ R.getD j 0 := c_le h2
        have ej : swpL R (R.getD i 0) (hn - 1) = j := by
          rw [← hsw]
          cases j with
          | zero => rfl
          | succ j => rw [swpL, if_neg (by omega)]
        clear ih
        refine V_aload_n0 X dX12_nextRow_68 ?_
        refine V_getf X dX12_nextRow_69 fX12_43 (by assumption) (by rfl) ?_
        refine V_iload_n1 X dX12_nextRow_72 ?_
        refine V_iald X i dX12_nextRow_73 (by assumption) rfl (by omega) (by omega) ?_
        rw [hf2 i (by omega)]
        refine V_istore_n3 X dX12_nextRow_74 (Nat.le_of_ble_eq_true rfl) rfl ?_
        refine V_aload_n0 X dX12_nextRow_75 ?_
        refine V_getf X dX12_nextRow_76 fX12_43 (by assumption) (by rfl) ?_
        refine V_iload_n1 X dX12_nextRow_79 ?_
        refine V_aload_n0 X dX12_nextRow_80 ?_
        refine V_getf X dX12_nextRow_81 fX12_43 (by assumption) (by rfl) ?_
        refine V_iload_n2 X dX12_nextRow_84 ?_
        refine V_iald X j dX12_nextRow_85 (by assumption) rfl (by omega) (by omega) ?_
        rw [hf2 j (by omega)]
        refine V_iast X i dX12_nextRow_86 (by assumption) rfl (by omega) (by omega) ?_
        have hO1 := gne (k := 41) (e2 := iA 6 (upd f i (nI (R.getD j 0)))) (by decide) hO
        have g1 := gset (e2 := iA 6 (upd f i (nI (R.getD j 0)))) hf1
        refine V_aload_n0 X dX12_nextRow_87 ?_
        refine V_getf X dX12_nextRow_88 fX12_43 (by assumption) (by rfl) ?_
        refine V_iload_n2 X dX12_nextRow_91 ?_
        refine V_iload_n3 X dX12_nextRow_92 ?_
        refine V_iast X j dX12_nextRow_93 (by assumption) rfl (by omega) (by omega) ?_
        have hO2 := gne (k := 41) (e2 := iA 6 (upd (upd f i (nI (R.getD j 0))) j (nI (R.getD i 0)))) (by decide) hO1
        have g2 := gset (e2 := iA 6 (upd (upd f i (nI (R.getD j 0))) j (nI (R.getD i 0)))) g1
        have hfr2 : fr [41] ws ((ws.set 41 (iA 6 (upd f i (nI (R.getD j 0))))).set 41 (iA 6 (upd (upd f i (nI (R.getD j 0))) j (nI (R.getD i 0))))) := (fr.rfl.set (by decide)).set (by decide)
        have hR2 : RI ((ws.set 41 (iA 6 (upd f i (nI (R.getD j 0))))).set 41 (iA 6 (upd (upd f i (nI (R.getD j 0))) j (nI (R.getD i 0))))) 41 (swapL R i j) := ⟨_, g2, swap_arr hl6 (by omega) (by omega) hf2⟩
        have hsm2 := smallL_swap h6 ⟨hl6, hs⟩ (show i < hn by omega) hjh
        generalize (ws.set 41 (iA 6 (upd f i (nI (R.getD j 0))))).set 41 (iA 6 (upd (upd f i (nI (R.getD j 0))) j (nI (R.getD i 0)))) = wb at hO2 hfr2 hR2 ⊢
        refine V_aload_n0 X dX12_nextRow_94 ?_
        refine V_getf X dX12_nextRow_95 fX12_214 (by assumption) (by rfl) ?_
        refine V_iconstE X (nI 1) dX12_nextRow_98 (by decide +kernel) ?_
        refine V_isub X dX12_nextRow_99 ?_
        refine V_istore_4 X dX12_nextRow_100 (Nat.le_of_ble_eq_true rfl) rfl ?_
        refine V_iload_n1 X dX12_nextRow_102 ?_
        refine V_iconstE X (nI 1) dX12_nextRow_103 (by decide +kernel) ?_
        refine V_iadd X dX12_nextRow_104 ?_
        rw [pk_sub (by omega), nI_add]
        refine V_istore_5 X dX12_nextRow_105 (Nat.le_of_ble_eq_true rfl) rfl ?_
        have hend : nextL hn R = some (revL 6 (i + 1) (hn - 1) (swapL R i j)) := by rw [nextL, hp]; show some _ = _; rw [ej]
        refine V_loop (fun k wz lv2 => ∃ (a b : Nat) (R3 : List Nat) (w3 : Int32), b < a + 2 * k ∧ a ≤ hn ∧ b < hn ∧ i + 1 ≤ a ∧ smallL hn R3 ∧ RI wz 41 R3 ∧ fr [41] ws wz ∧ revL k a b R3 = revL 6 (i + 1) (hn - 1) (swapL R i j) ∧ lv2 = [some (.ref 29), some (.int (nI i)), some (.int (nI j)), some (.int w3), some (.int (nI b)), some (.int (nI a))]) 6 ⟨i + 1, hn - 1, swapL R i j, _, by omega, by omega, by omega, by omega, hsm2, hR2, hfr2, rfl, rfl⟩ ?_
        clear hO2 hR2 hfr2 hO1 g1 g2
        rintro k wz _ ⟨a, b, R3, w3, hab, ha, hb, hia, hsm3, hR3, hfr3, hrv, rfl⟩ ih
        have hO3 := hfr3.get (by decide) hO
        have hR30 := hR3
        obtain ⟨f3, q1, q2⟩ := hR3
        refine V_iload_5 X dX12_nextRow_107 ?_
        refine V_iload_4 X dX12_nextRow_109 ?_
        refine V_icmp_ge X 153 dX12_nextRow_111 (by decide) (fun h3 => ?_) (fun h3 => ?_)
        · have e8 : b ≤ a := c_le h3
          have er : revL k a b R3 = R3 := by
            cases k with
            | zero => rfl
            | succ k => rw [revL, if_neg (by omega)]
          refine V_iconstE X (nI 1) dX12_nextRow_153 (by decide +kernel) ?_
          exact V_zret X dX12_nextRow_154 rfl ⟨by rw [hend]; rfl, by rw [hend, ← hrv, er]; exact hR30, hfr3⟩
        · have e8 : a < b := c_nle h3
          refine V_aload_n0 X dX12_nextRow_114 ?_
          refine V_getf X dX12_nextRow_115 fX12_43 (by assumption) (by rfl) ?_
          refine V_iload_5 X dX12_nextRow_118 ?_
          refine V_iald X a dX12_nextRow_120 (by assumption) rfl (by omega) (by omega) ?_
          rw [q2 a (by omega)]
          refine V_istore_n3 X dX12_nextRow_121 (Nat.le_of_ble_eq_true rfl) rfl ?_
          refine V_aload_n0 X dX12_nextRow_122 ?_
          refine V_getf X dX12_nextRow_123 fX12_43 (by assumption) (by rfl) ?_
          refine V_iload_5 X dX12_nextRow_126 ?_
          refine V_aload_n0 X dX12_nextRow_128 ?_
          refine V_getf X dX12_nextRow_129 fX12_43 (by assumption) (by rfl) ?_
          refine V_iload_4 X dX12_nextRow_132 ?_
          refine V_iald X b dX12_nextRow_134 (by assumption) rfl (by omega) (by omega) ?_
          rw [q2 b (by omega)]
          refine V_iast X a dX12_nextRow_135 (by assumption) rfl (by omega) (by omega) ?_
          have hO4 := gne (k := 41) (e2 := iA 6 (upd f3 a (nI (R3.getD b 0)))) (by decide) hO3
          have g1 := gset (e2 := iA 6 (upd f3 a (nI (R3.getD b 0)))) q1
          refine V_aload_n0 X dX12_nextRow_136 ?_
          refine V_getf X dX12_nextRow_137 fX12_43 (by assumption) (by rfl) ?_
          refine V_iload_4 X dX12_nextRow_140 ?_
          refine V_iload_n3 X dX12_nextRow_142 ?_
          refine V_iast X b dX12_nextRow_143 (by assumption) rfl (by omega) (by omega) ?_
          obtain ⟨b2, rfl⟩ : ∃ b2, b = b2 + 1 := ⟨b - 1, by omega⟩
          refine V_iinc_4 X dX12_nextRow_144 (Nat.le_of_ble_eq_true rfl) rfl (dec1 _) ?_
          refine V_iinc_5 X dX12_nextRow_147 (Nat.le_of_ble_eq_true rfl) rfl (inc1 _) ?_
          refine V_goto X 107 dX12_nextRow_150 (by decide) ?_
          refine ih (k - 1) _ _ (by omega) ⟨a + 1, b2, swapL R3 a (b2 + 1), _, by omega, by omega, by omega, by omega, smallL_swap h6 hsm3 (by omega) hb, ⟨_, gset g1, swap_arr hsm3.1 (by omega) (by omega) q2⟩, (hfr3.set (by decide)).set (by decide), ?_, rfl⟩
          rw [← hrv]
          obtain ⟨k2, rfl⟩ : ∃ k2, k = k2 + 1 := ⟨k - 1, by omega⟩
          rw [revL, if_pos e8]
          rfl
      · have e9 : R.getD j 0 < R.getD i 0 := c_nle h2
        have hji : i ≠ j := fun q => by rw [q] at e9; omega
        obtain ⟨j2, rfl⟩ : ∃ j2, j = j2 + 1 := ⟨j - 1, by omega⟩
        refine V_iinc_2 X dX12_nextRow_62 (Nat.le_of_ble_eq_true rfl) rfl (dec1 _) ?_
        refine V_goto X 47 dX12_nextRow_65 (by decide) ?_
        exact ih j2 _ (by omega) ⟨j2, rfl, by omega, by omega, by rw [← hsw, swpL, if_pos e9], rfl⟩
    · exact absurd (nI_pos' (by omega)) h
  have lost : ∀ x : Int32, x < 0 → pivL R (hn - 1) = none → V p l e (rmm 0 0 0) s m args below meth c 0 0 (MQ below (QQ G A (pI ad (fun r ws2 => r = bI (nextL hn R).isSome ∧ RI ws2 41 ((nextL hn R).getD R) ∧ fr [41] ws ws2))) args s 0 0 A) G A 6 ad ws 34 [some (.ref 29), some (.int x), none, none, none, none] [] := by
    intro x hx hp
    have hnone : nextL hn R = none := by rw [nextL, hp]
    refine V_iload_n1 X dX12_nextRow_34 ?_
    refine V_if_ge X 40 dX12_nextRow_35 (by decide) (fun h => ?_) (fun h => ?_)
    · exact absurd hx (Int32.not_lt.mpr h)
    · refine V_iconstE X (nI 0) dX12_nextRow_38 (by decide +kernel) ?_
      exact V_zret X dX12_nextRow_39 rfl ⟨by rw [hnone]; rfl, by rw [hnone]; exact hR0, fr.rfl⟩
  rcases Nat.lt_or_ge hn 2 with h2 | h2
  · refine V_iload_n1 X dX12_nextRow_7 ?_
    refine V_if_lt X 34 dX12_nextRow_8 (by decide) (fun h => ?_) (fun h => ?_)
    · exact lost _ h (by rw [show hn - 1 = 0 by omega]; rfl)
    · exact absurd (pk_sneg (by decide) h2) h
  · rw [pk_sub h2]
    refine V_loopP (fun k lv2 => ∃ (x : Int32), k ≤ hn - 1 ∧ pivL R k = pivL R (hn - 1) ∧ ((k = 0 ∧ x = -1) ∨ (0 < k ∧ x = nI (k - 1))) ∧ lv2 = [some (.ref 29), some (.int x), none, none, none, none]) (hn - 1) ⟨_, by omega, rfl, Or.inr ⟨by omega, rfl⟩, rfl⟩ ?_
    rintro k _ ⟨x, hk, hp, hx, rfl⟩ ih
    rcases hx with ⟨rfl, rfl⟩ | ⟨hk0, rfl⟩
    · refine V_iload_n1 X dX12_nextRow_7 ?_
      refine V_if_lt X 34 dX12_nextRow_8 (by decide) (fun h => ?_) (fun h => ?_)
      · exact lost _ h (by rw [← hp]; rfl)
      · exact absurd (by decide) h
    · obtain ⟨i, rfl⟩ : ∃ i, k = i + 1 := ⟨k - 1, by omega⟩
      rw [Nat.add_sub_cancel]
      have hr1 := hs i (by omega)
      have hr2 := hs (i + 1) (by omega)
      refine V_iload_n1 X dX12_nextRow_7 ?_
      refine V_if_lt X 34 dX12_nextRow_8 (by decide) (fun h => ?_) (fun h => ?_)
      · exact absurd h (nI_pos (by omega))
      · refine V_aload_n0 X dX12_nextRow_11 ?_
        refine V_getf X dX12_nextRow_12 fX12_43 (by assumption) (by rfl) ?_
        refine V_iload_n1 X dX12_nextRow_15 ?_
        refine V_iald X i dX12_nextRow_16 (by assumption) rfl (by omega) (by omega) ?_
        refine V_aload_n0 X dX12_nextRow_17 ?_
        refine V_getf X dX12_nextRow_18 fX12_43 (by assumption) (by rfl) ?_
        refine V_iload_n1 X dX12_nextRow_21 ?_
        refine V_iconstE X (nI 1) dX12_nextRow_22 (by decide +kernel) ?_
        refine V_iadd X dX12_nextRow_23 ?_
        refine V_iald X (i + 1) dX12_nextRow_24 (by assumption) (nI_add _ _) (by omega) (by omega) ?_
        rw [hf2 i (by omega), hf2 (i + 1) (by omega)]
        refine V_icmp_le X 34 dX12_nextRow_25 (by decide) (fun h3 => ?_) (fun h3 => ?_)
        · have e9 : R.getD i 0 ≤ R.getD (i + 1) 0 := c_le h3
          exact found i (by rw [← hp, pivL, if_neg (by omega)]) (by omega) e9
        · have e9 : R.getD (i + 1) 0 < R.getD i 0 := c_nle h3
          have hp2 : pivL R i = pivL R (hn - 1) := by rw [← hp, pivL, if_pos e9]
          cases i with
          | zero =>
            refine V_iinc_1 X dX12_nextRow_28 (Nat.le_of_ble_eq_true rfl) rfl (show nI 0 + Int32.ofInt (-1) = -1 by decide +kernel) ?_
            refine V_goto X 7 dX12_nextRow_31 (by decide) ?_
            exact ih 0 _ (by omega) ⟨_, by omega, hp2, Or.inl ⟨rfl, rfl⟩, rfl⟩
          | succ i =>
            refine V_iinc_1 X dX12_nextRow_28 (Nat.le_of_ble_eq_true rfl) rfl (dec1 _) ?_
            refine V_goto X 7 dX12_nextRow_31 (by decide) ?_
            exact ih (i + 1) _ (by omega) ⟨_, by omega, hp2, Or.inr ⟨by omega, rfl⟩, rfl⟩
