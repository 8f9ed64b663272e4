theorem clX11_9 : Cond.classLink RX11 9 RX6 ∈ tb := tb_mem 76 (by decide +kernel) (by decide +kernel)
theorem nwX11_9 : CNew RX11 9 6 2 [.null, .int (nI 0)] := ⟨RX6, TX6, tyX6, ci_6, clX11_9, tb_mem 77 (by decide +kernel) (by decide +kernel), kX11_11.2.2.2.1, fun | 0, _ => rfl | 1, _ => rfl | j + 2, h => absurd h (by omega)⟩
theorem clX11_16 : Cond.classLink RX11 16 RX1 ∈ tb := tb_mem 97 (by decide +kernel) (by decide +kernel)
theorem nwX11_16 : CNew RX11 16 1 6 [.null, .null, .null, .null, .null, .int (nI 0)] := ⟨RX1, TX1, tyX1, ci_1, clX11_16, tb_mem 98 (by decide +kernel) (by decide +kernel), kX11_18.2.2.2.1, fun | 0, _ => rfl | 1, _ => rfl | 2, _ => rfl | 3, _ => rfl | 4, _ => rfl | 5, _ => rfl | j + 6, h => absurd h (by omega)⟩
theorem clX11_25 : Cond.classLink RX11 25 RX2 ∈ tb := tb_mem 123 (by decide +kernel) (by decide +kernel)
theorem nwX11_25 : CNew RX11 25 2 3 [.null, .null, .null] := ⟨RX2, TX2, tyX2, ci_2, clX11_25, tb_mem 124 (by decide +kernel) (by decide +kernel), kX11_27.2.2.2.1, fun | 0, _ => rfl | 1, _ => rfl | 2, _ => rfl | j + 3, h => absurd h (by omega)⟩
theorem clX11_32 : Cond.classLink RX11 32 RX9 ∈ tb := tb_mem 139 (by decide +kernel) (by decide +kernel)
theorem nwX11_32 : CNew RX11 32 9 9 [.null, .null, .null, .int (nI 0), .null, .null, .int (nI 0), .int (nI 0), .int (nI 0)] := ⟨RX9, TX9, tyX9, ci_9, clX11_32, tb_mem 140 (by decide +kernel) (by decide +kernel), kX11_34.2.2.2.1, fun | 0, _ => rfl | 1, _ => rfl | 2, _ => rfl | 3, _ => rfl | 4, _ => rfl | 5, _ => rfl | 6, _ => rfl | 7, _ => rfl | 8, _ => rfl | j + 9, h => absurd h (by omega)⟩
theorem clX11_41 : Cond.classLink RX11 41 RX10 ∈ tb := tb_mem 173 (by decide +kernel) (by decide +kernel)
theorem nwX11_41 : CNew RX11 41 10 6 [.null, .null, .null, .null, .int (nI 0), .int (nI 0)] := ⟨RX10, TX10, tyX10, ci_10, clX11_41, tb_mem 174 (by decide +kernel) (by decide +kernel), kX11_43.2.2.2.1, fun | 0, _ => rfl | 1, _ => rfl | 2, _ => rfl | 3, _ => rfl | 4, _ => rfl | 5, _ => rfl | j + 6, h => absurd h (by omega)⟩
theorem clX11_48 : Cond.classLink RX11 48 RX7 ∈ tb := tb_mem 198 (by decide +kernel) (by decide +kernel)
theorem nwX11_48 : CNew RX11 48 7 2 [.null, .int (nI 0)] := ⟨RX7, TX7, tyX7, ci_7, clX11_48, tb_mem 199 (by decide +kernel) (by decide +kernel), kX11_50.2.2.2.1, fun | 0, _ => rfl | 1, _ => rfl | j + 2, h => absurd h (by omega)⟩
theorem clX11_244 : Cond.classLink RX11 244 RX5 ∈ tb := tb_mem 282 (by decide +kernel) (by decide +kernel)
theorem nwX11_244 : CNew RX11 244 5 0 [] := ⟨RX5, TX5, tyX5, ci_5, clX11_244, tb_mem 283 (by decide +kernel) (by decide +kernel), kX11_246.2.2.2.1, fun  | j + 0, h => absurd h (by omega)⟩
theorem clX11_247 : Cond.classLink RX11 247 RX8 ∈ tb := tb_mem 289 (by decide +kernel) (by decide +kernel)
theorem nwX11_247 : CNew RX11 247 8 0 [] := ⟨RX8, TX8, tyX8, ci_8, clX11_247, tb_mem 290 (by decide +kernel) (by decide +kernel), kX11_249.2.2.2.1, fun  | j + 0, h => absurd h (by omega)⟩
theorem clX11_250 : Cond.classLink RX11 250 RX0 ∈ tb := tb_mem 296 (by decide +kernel) (by decide +kernel)
theorem nwX11_250 : CNew RX11 250 0 0 [] := ⟨RX0, TX0, tyX0, ci_0, clX11_250, tb_mem 297 (by decide +kernel) (by decide +kernel), kX11_252.2.2.2.1, fun  | j + 0, h => absurd h (by omega)⟩
theorem clX11_253 : Cond.classLink RX11 253 RX3 ∈ tb := tb_mem 303 (by decide +kernel) (by decide +kernel)
theorem nwX11_253 : CNew RX11 253 3 0 [] := ⟨RX3, TX3, tyX3, ci_3, clX11_253, tb_mem 304 (by decide +kernel) (by decide +kernel), kX11_255.2.2.2.1, fun  | j + 0, h => absurd h (by omega)⟩
theorem clX11_256 : Cond.classLink RX11 256 RX4 ∈ tb := tb_mem 310 (by decide +kernel) (by decide +kernel)
theorem nwX11_256 : CNew RX11 256 4 0 [] := ⟨RX4, TX4, tyX4, ci_4, clX11_256, tb_mem 84 (by decide +kernel) (by decide +kernel), kX6_21.2.2.2.1, fun  | j + 0, h => absurd h (by omega)⟩
theorem clX6_9 : Cond.classLink RX6 9 RX4 ∈ tb := tb_mem 82 (by decide +kernel) (by decide +kernel)
theorem nwX6_9 : CNew RX6 9 4 0 [] := ⟨RX4, TX4, tyX4, ci_4, clX6_9, tb_mem 84 (by decide +kernel) (by decide +kernel), kX6_21.2.2.2.1, fun  | j + 0, h => absurd h (by omega)⟩
theorem clL_7 : Cond.classLink RL 7 RX11 ∈ tb := tb_mem 68 (by decide +kernel) (by decide +kernel)
theorem nwL_7 : CNew RL 7 11 15 [.null, .null, .null, .null, .null, .null, .null, .null, .null, .int (nI 0), .int (nI 0), .int (nI 0), .int (nI 0), .int (nI 0), .int (nI 0)] := ⟨RX11, TX11, tyX11, ci_11, clL_7, tb_mem 69 (by decide +kernel) (by decide +kernel), kL_9.2.2.2.1, fun | 0, _ => rfl | 1, _ => rfl | 2, _ => rfl | 3, _ => rfl | 4, _ => rfl | 5, _ => rfl | 6, _ => rfl | 7, _ => rfl | 8, _ => rfl | 9, _ => rfl | 10, _ => rfl | 11, _ => rfl | 12, _ => rfl | 13, _ => rfl | 14, _ => rfl | j + 15, h => absurd h (by omega)⟩
theorem clL_10 : Cond.classLink RL 10 RX12 ∈ tb := tb_mem 791 (by decide +kernel) (by decide +kernel)
theorem nwL_10 : CNew RL 10 12 31 [.int (nI 0), .null, .null, .int (nI 0), .null, .null, .null, .int (nI 0), .int (nI 0), .int (nI 0), .null, .int (nI 0), .null, .null, .null, .int (nI 0), .int (nI 0), .int (nI 0), .int (nI 0), .null, .null, .null, .null, .int (nI 0), .int (nI 0), .int (nI 0), .null, .null, .null, .null, .long (lN 0)] := ⟨RX12, TX12, tyX12, ci_12, clL_10, tb_mem 792 (by decide +kernel) (by decide +kernel), kL_12.2.2.2.1, fun | 0, _ => rfl | 1, _ => rfl | 2, _ => rfl | 3, _ => rfl | 4, _ => rfl | 5, _ => rfl | 6, _ => rfl | 7, _ => rfl | 8, _ => rfl | 9, _ => rfl | 10, _ => rfl | 11, _ => rfl | 12, _ => rfl | 13, _ => rfl | 14, _ => rfl | 15, _ => rfl | 16, _ => rfl | 17, _ => rfl | 18, _ => rfl | 19, _ => rfl | 20, _ => rfl | 21, _ => rfl | 22, _ => rfl | 23, _ => rfl | 24, _ => rfl | 25, _ => rfl | 26, _ => rfl | 27, _ => rfl | 28, _ => rfl | 29, _ => rfl | 30, _ => rfl | j + 31, h => absurd h (by omega)⟩
abbrev pN (n : Nat) (ad : Nat → Nat) (w : List CE) : (Nat → Nat) → Option Value → List CE → Prop := fun ad2 v ws2 => agr n ad ad2 ∧ ad2 kP = ad kP ∧ v = none ∧ ws2 = w
theorem C_feat (l : Launch) (G : GX) (ad : Nat → Nat) (ws : List CE) (k : Nat) : Ct l G yX4_init cX4_init 1 none 1 0 0 ad ws [.ref k] (pV ad (fun w => w = ws)) := by
  refine Ct.of [some (.ref k)] (by decide +kernel) (Nat.le_of_ble_eq_true rfl) rfl ?_
  intro p e s m args below meth c A X
  refine V_aload_n0 X dX4_init_0 ?_
  refine V_obj X dX4_init_1 w_88 (Nat.le_of_ble_eq_true rfl) ⟨(Nat.le_of_ble_eq_true rfl), (Nat.le_of_ble_eq_true rfl)⟩ ?_
  exact V_vret X dX4_init_4 rfl
theorem C_hair (l : Launch) (G : GX) (ad : Nat → Nat) (ws : List CE) (k : Nat) : Ct l G yX5_init cX5_init 1 none 3 0 0 ad ws [.ref k] (pV ad (fun w => w = ws)) := by
  refine Ct.of [some (.ref k)] (by decide +kernel) (Nat.le_of_ble_eq_true rfl) rfl ?_
  intro p e s m args below meth c A X
  refine V_aload_n0 X dX5_init_0 ?_
  refine V_cN0V X dX5_init_1 kX5_3 (C_feat l G ad ws k) (Nat.le_of_ble_eq_true rfl) ⟨⟨Nat.le_of_ble_eq_true rfl, Nat.le_of_ble_eq_true rfl⟩, Nat.le_of_ble_eq_true rfl, Nat.le_of_ble_eq_true rfl⟩ (fun ws2 hc => ?_)
  exact V_vret X dX5_init_4 hc
theorem C_scar (l : Launch) (G : GX) (ad : Nat → Nat) (ws : List CE) (k : Nat) : Ct l G yX8_init cX8_init 1 none 3 0 0 ad ws [.ref k] (pV ad (fun w => w = ws)) := by
  refine Ct.of [some (.ref k)] (by decide +kernel) (Nat.le_of_ble_eq_true rfl) rfl ?_
  intro p e s m args below meth c A X
  refine V_aload_n0 X dX8_init_0 ?_
  refine V_cN0V X dX8_init_1 kX8_3 (C_feat l G ad ws k) (Nat.le_of_ble_eq_true rfl) ⟨⟨Nat.le_of_ble_eq_true rfl, Nat.le_of_ble_eq_true rfl⟩, Nat.le_of_ble_eq_true rfl, Nat.le_of_ble_eq_true rfl⟩ (fun ws2 hc => ?_)
  exact V_vret X dX8_init_4 hc
theorem C_beard (l : Launch) (G : GX) (ad : Nat → Nat) (ws : List CE) (k : Nat) : Ct l G yX0_init cX0_init 1 none 3 0 0 ad ws [.ref k] (pV ad (fun w => w = ws)) := by
  refine Ct.of [some (.ref k)] (by decide +kernel) (Nat.le_of_ble_eq_true rfl) rfl ?_
  intro p e s m args below meth c A X
  refine V_aload_n0 X dX0_init_0 ?_
  refine V_cN0V X dX0_init_1 kX0_3 (C_feat l G ad ws k) (Nat.le_of_ble_eq_true rfl) ⟨⟨Nat.le_of_ble_eq_true rfl, Nat.le_of_ble_eq_true rfl⟩, Nat.le_of_ble_eq_true rfl, Nat.le_of_ble_eq_true rfl⟩ (fun ws2 hc => ?_)
  exact V_vret X dX0_init_4 hc
theorem C_crown (l : Launch) (G : GX) (ad : Nat → Nat) (ws : List CE) (k : Nat) : Ct l G yX3_init cX3_init 1 none 5 0 0 ad ws [.ref k] (pV ad (fun w => w = ws)) := by
  refine Ct.of [some (.ref k)] (by decide +kernel) (Nat.le_of_ble_eq_true rfl) rfl ?_
  intro p e s m args below meth c A X
  refine V_aload_n0 X dX3_init_0 ?_
  refine V_cN0V X dX3_init_1 kX3_3 (C_scar l G ad ws k) (Nat.le_of_ble_eq_true rfl) ⟨⟨Nat.le_of_ble_eq_true rfl, Nat.le_of_ble_eq_true rfl⟩, Nat.le_of_ble_eq_true rfl, Nat.le_of_ble_eq_true rfl⟩ (fun ws2 hc => ?_)
  exact V_vret X dX3_init_4 hc
abbrev wA1 : List CE := [oB 11 [.null, .null, .null, .null, .null, .null, .null, .null, .null, .int (nI 0), .int (nI 0), .int (nI 0), .int (nI 0), .int (nI 0), .int (nI 0)], oB 6 [.null, .int (nI 0)]]
abbrev wB1 : List CE := [oB 11 [.null, .null, .null, .null, .null, .null, .null, .null, .null, .int (nI 0), .int (nI 0), .int (nI 0), .int (nI 0), .int (nI 0), .int (nI 0)], oB 6 [.ref 2, .int (nI 0)], rA [some 3, some 3, some 3, some 3], oB 4 []]
theorem C_looks (l : Launch) (G : GX) (ad : Nat → Nat)  : Ct l G yX6_init cX6_init 3 none 4 2 4 ad wA1 [.ref 1] (pN 2 ad wB1) := by
  refine Ct.of [some (.ref 1), none, none] (by decide +kernel) (Nat.le_of_ble_eq_true rfl) rfl ?_
  intro p e s m args below meth c A X
  refine V_aload_n0 X dX6_init_0 ?_
  refine V_obj X dX6_init_1 w_81 (Nat.le_of_ble_eq_true rfl) ⟨(Nat.le_of_ble_eq_true rfl), (Nat.le_of_ble_eq_true rfl)⟩ ?_
  refine V_aload_n0 X dX6_init_4 ?_
  refine V_iconstE X (nI 4) dX6_init_5 (by decide +kernel) ?_
  refine V_newq X 2 4 dX6_init_6 clX6_9 rfl (Nat.le_of_ble_eq_true rfl) rfl rfl rfl rfl (Nat.le_of_ble_eq_true rfl) (Nat.le_of_ble_eq_true rfl) (fun a1 ag1 hq1 => ?_)
  have hq1 := hq1.resolve_right (by decide)
  refine V_putF X dX6_init_9 fX6_11 rfl (by first | rfl | assumption) ⟨_, _, rfl⟩ (Nat.le_of_ble_eq_true rfl) rfl rfl ?_
  refine V_aload_n0 X dX6_init_12 ?_
  refine V_iconstE X (nI 0) dX6_init_13 (by decide +kernel) ?_
  refine V_putf X dX6_init_14 fX6_17 (by first | rfl | assumption) (Nat.le_of_ble_eq_true rfl) rfl rfl ?_
  refine V_new X 3 dX6_init_17 nwX6_9 (fun _ => rfl) rfl rfl rfl rfl (Nat.le_of_ble_eq_true rfl) (Nat.le_of_ble_eq_true rfl) (fun a2 ag2 hq2 => ?_)
  have hq2 := hq2.resolve_right (by decide)
  refine V_dup X dX6_init_20 rfl ?_
  refine V_cN0V X dX6_init_21 kX6_21 (C_feat l G _ _ 3) (Nat.le_of_ble_eq_true rfl) ⟨⟨Nat.le_of_ble_eq_true rfl, Nat.le_of_ble_eq_true rfl⟩, Nat.le_of_ble_eq_true rfl, Nat.le_of_ble_eq_true rfl⟩ (fun ws2 hc => ?_)
  subst hc
  refine V_astore_n1 X dX6_init_24 (Nat.le_of_ble_eq_true rfl) rfl ?_
  refine V_iconstE X (nI 0) dX6_init_25 (by decide +kernel) ?_
  refine V_istore_n2 X dX6_init_26 (Nat.le_of_ble_eq_true rfl) rfl ?_
  refine V_iload_n2 X dX6_init_27 ?_
  refine V_iconstE X (nI 4) dX6_init_28 (by decide +kernel) ?_
  refine V_icmp_ge X 45 dX6_init_29 (by decide) (fun hh => ?_) (fun hh => ?_)
  · exact absurd hh (by decide)
  refine V_aload_n0 X dX6_init_32 ?_
  refine V_getf X dX6_init_33 fX6_11 (by first | rfl | assumption) (by rfl) ?_
  refine V_iload_n2 X dX6_init_36 ?_
  refine V_aload_n1 X dX6_init_37 ?_
  refine V_aast X 0 dX6_init_38 rfl rfl (Nat.le_of_ble_eq_true rfl) (Nat.le_of_ble_eq_true rfl) rfl (show vwCl[4]? = some (RX4, TX4, 0) from rfl) (Or.inl rfl) ?_
  refine V_iinc_2 X dX6_init_39 (Nat.le_of_ble_eq_true rfl) rfl (inc1 _) ?_
  refine V_goto X 27 dX6_init_42 (by decide) ?_
  refine V_iload_n2 X dX6_init_27 ?_
  refine V_iconstE X (nI 4) dX6_init_28 (by decide +kernel) ?_
  refine V_icmp_ge X 45 dX6_init_29 (by decide) (fun hh => ?_) (fun hh => ?_)
  · exact absurd hh (by decide)
  refine V_aload_n0 X dX6_init_32 ?_
  refine V_getf X dX6_init_33 fX6_11 (by first | rfl | assumption) (by rfl) ?_
  refine V_iload_n2 X dX6_init_36 ?_
  refine V_aload_n1 X dX6_init_37 ?_
  refine V_aast X 1 dX6_init_38 rfl rfl (Nat.le_of_ble_eq_true rfl) (Nat.le_of_ble_eq_true rfl) rfl (show vwCl[4]? = some (RX4, TX4, 0) from rfl) (Or.inl rfl) ?_
  refine V_iinc_2 X dX6_init_39 (Nat.le_of_ble_eq_true rfl) rfl (inc1 _) ?_
  refine V_goto X 27 dX6_init_42 (by decide) ?_
  refine V_iload_n2 X dX6_init_27 ?_
  refine V_iconstE X (nI 4) dX6_init_28 (by decide +kernel) ?_
  refine V_icmp_ge X 45 dX6_init_29 (by decide) (fun hh => ?_) (fun hh => ?_)
  · exact absurd hh (by decide)
  refine V_aload_n0 X dX6_init_32 ?_
  refine V_getf X dX6_init_33 fX6_11 (by first | rfl | assumption) (by rfl) ?_
  refine V_iload_n2 X dX6_init_36 ?_
  refine V_aload_n1 X dX6_init_37 ?_
  refine V_aast X 2 dX6_init_38 rfl rfl (Nat.le_of_ble_eq_true rfl) (Nat.le_of_ble_eq_true rfl) rfl (show vwCl[4]? = some (RX4, TX4, 0) from rfl) (Or.inl rfl) ?_
  refine V_iinc_2 X dX6_init_39 (Nat.le_of_ble_eq_true rfl) rfl (inc1 _) ?_
  refine V_goto X 27 dX6_init_42 (by decide) ?_
  refine V_iload_n2 X dX6_init_27 ?_
  refine V_iconstE X (nI 4) dX6_init_28 (by decide +kernel) ?_
  refine V_icmp_ge X 45 dX6_init_29 (by decide) (fun hh => ?_) (fun hh => ?_)
  · exact absurd hh (by decide)
  refine V_aload_n0 X dX6_init_32 ?_
  refine V_getf X dX6_init_33 fX6_11 (by first | rfl | assumption) (by rfl) ?_
  refine V_iload_n2 X dX6_init_36 ?_
  refine V_aload_n1 X dX6_init_37 ?_
  refine V_aast X 3 dX6_init_38 rfl rfl (Nat.le_of_ble_eq_true rfl) (Nat.le_of_ble_eq_true rfl) rfl (show vwCl[4]? = some (RX4, TX4, 0) from rfl) (Or.inl rfl) ?_
  refine V_iinc_2 X dX6_init_39 (Nat.le_of_ble_eq_true rfl) rfl (inc1 _) ?_
  refine V_goto X 27 dX6_init_42 (by decide) ?_
  refine V_iload_n2 X dX6_init_27 ?_
  refine V_iconstE X (nI 4) dX6_init_28 (by decide +kernel) ?_
  refine V_icmp_ge X 45 dX6_init_29 (by decide) (fun hh => ?_) (fun hh => ?_)
  · exact V_vretG X dX6_init_45 (Nat.le_of_ble_eq_true rfl) (Nat.le_of_ble_eq_true rfl) ⟨(ag1.trans ag2 (Nat.le_of_ble_eq_true rfl)), (hq2.trans hq1), rfl, rfl⟩
  · exact absurd (by decide) hh
abbrev wA2 : List CE := [oB 11 [.ref 1, .null, .null, .null, .null, .null, .null, .null, .null, .int (nI 0), .int (nI 0), .int (nI 0), .int (nI 0), .int (nI 0), .int (nI 0)], oB 6 [.ref 2, .int (nI 0)], rA [some 3, some 3, some 3, some 3], oB 4 [], oB 1 [.null, .null, .null, .null, .null, .int (nI 0)]]
abbrev wB2 : List CE := [oB 11 [.ref 1, .null, .null, .null, .null, .null, .null, .null, .null, .int (nI 0), .int (nI 0), .int (nI 0), .int (nI 0), .int (nI 0), .int (nI 0)], oB 6 [.ref 2, .int (nI 0)], rA [some 3, some 3, some 3, some 3], oB 4 [], oB 1 [.ref 1, .ref 5, .ref 6, .ref 7, .ref 8, .int (nI 0)], iA 30 (fun _ => nI 0), iA 40 (fun _ => nI 0), iA 37 (fun _ => nI 0), iA 4 (fun _ => nI 0)]
theorem C_bench (l : Launch) (G : GX) (ad : Nat → Nat)  : Ct l G yX1_init cX1_init 2 none 4 4 111 ad wA2 [.ref 4, .ref 1] (pN 5 ad wB2) := by
  refine Ct.of [some (.ref 4), some (.ref 1)] (by decide +kernel) (Nat.le_of_ble_eq_true rfl) rfl ?_
  intro p e s m args below meth c A X
  refine V_aload_n0 X dX1_init_0 ?_
  refine V_obj X dX1_init_1 w_102 (Nat.le_of_ble_eq_true rfl) ⟨(Nat.le_of_ble_eq_true rfl), (Nat.le_of_ble_eq_true rfl)⟩ ?_
  refine V_aload_n0 X dX1_init_4 ?_
  refine V_bipushE X (nI 30) dX1_init_5 (by decide +kernel) ?_
  refine V_newa X 5 30 dX1_init_7 rfl (Nat.le_of_ble_eq_true rfl) rfl rfl rfl rfl (Nat.le_of_ble_eq_true rfl) (Nat.le_of_ble_eq_true rfl) (fun a3 ag3 hq3 => ?_)
  have hq3 := hq3.resolve_right (by decide)
  refine V_putF X dX1_init_9 fX1_9 rfl (by first | rfl | assumption) ⟨_, _, rfl⟩ (Nat.le_of_ble_eq_true rfl) rfl rfl ?_
  refine V_aload_n0 X dX1_init_12 ?_
  refine V_bipushE X (nI 40) dX1_init_13 (by decide +kernel) ?_
  refine V_newa X 6 40 dX1_init_15 rfl (Nat.le_of_ble_eq_true rfl) rfl rfl rfl rfl (Nat.le_of_ble_eq_true rfl) (Nat.le_of_ble_eq_true rfl) (fun a4 ag4 hq4 => ?_)
  have hq4 := hq4.resolve_right (by decide)
  refine V_putF X dX1_init_17 fX1_15 rfl (by first | rfl | assumption) ⟨_, _, rfl⟩ (Nat.le_of_ble_eq_true rfl) rfl rfl ?_
  refine V_aload_n0 X dX1_init_20 ?_
  refine V_bipushE X (nI 37) dX1_init_21 (by decide +kernel) ?_
  refine V_newa X 7 37 dX1_init_23 rfl (Nat.le_of_ble_eq_true rfl) rfl rfl rfl rfl (Nat.le_of_ble_eq_true rfl) (Nat.le_of_ble_eq_true rfl) (fun a5 ag5 hq5 => ?_)
  have hq5 := hq5.resolve_right (by decide)
  refine V_putF X dX1_init_25 fX1_18 rfl (by first | rfl | assumption) ⟨_, _, rfl⟩ (Nat.le_of_ble_eq_true rfl) rfl rfl ?_
  refine V_aload_n0 X dX1_init_28 ?_
  refine V_iconstE X (nI 4) dX1_init_29 (by decide +kernel) ?_
  refine V_newa X 8 4 dX1_init_30 rfl (Nat.le_of_ble_eq_true rfl) rfl rfl rfl rfl (Nat.le_of_ble_eq_true rfl) (Nat.le_of_ble_eq_true rfl) (fun a6 ag6 hq6 => ?_)
  have hq6 := hq6.resolve_right (by decide)
  refine V_putF X dX1_init_32 fX1_21 rfl (by first | rfl | assumption) ⟨_, _, rfl⟩ (Nat.le_of_ble_eq_true rfl) rfl rfl ?_
  refine V_aload_n0 X dX1_init_35 ?_
  refine V_iconstE X (nI 0) dX1_init_36 (by decide +kernel) ?_
  refine V_putf X dX1_init_37 fX1_24 (by first | rfl | assumption) (Nat.le_of_ble_eq_true rfl) rfl rfl ?_
  refine V_aload_n0 X dX1_init_40 ?_
  refine V_aload_n1 X dX1_init_41 ?_
  refine V_putF X dX1_init_42 fX1_28 rfl (by first | rfl | assumption) ⟨_, _, rfl⟩ (Nat.le_of_ble_eq_true rfl) rfl rfl ?_
  exact V_vretG X dX1_init_45 (Nat.le_of_ble_eq_true rfl) (Nat.le_of_ble_eq_true rfl) ⟨(((ag3.trans ag4 (Nat.le_of_ble_eq_true rfl)).trans ag5 (Nat.le_of_ble_eq_true rfl)).trans ag6 (Nat.le_of_ble_eq_true rfl)), (hq6.trans (hq5.trans (hq4.trans hq3))), rfl, rfl⟩
abbrev wA3 : List CE := [oB 11 [.ref 1, .ref 4, .null, .null, .null, .null, .null, .null, .null, .int (nI 0), .int (nI 0), .int (nI 0), .int (nI 0), .int (nI 0), .int (nI 0)], oB 6 [.ref 2, .int (nI 0)], rA [some 3, some 3, some 3, some 3], oB 4 [], oB 1 [.ref 1, .ref 5, .ref 6, .ref 7, .ref 8, .int (nI 0)], iA 30 (fun _ => nI 0), iA 40 (fun _ => nI 0), iA 37 (fun _ => nI 0), iA 4 (fun _ => nI 0), oB 2 [.null, .null, .null]]
abbrev wB3 : List CE := [oB 11 [.ref 1, .ref 4, .null, .null, .null, .null, .null, .null, .null, .int (nI 0), .int (nI 0), .int (nI 0), .int (nI 0), .int (nI 0), .int (nI 0)], oB 6 [.ref 2, .int (nI 0)], rA [some 3, some 3, some 3, some 3], oB 4 [], oB 1 [.ref 1, .ref 5, .ref 6, .ref 7, .ref 8, .int (nI 0)], iA 30 (fun _ => nI 0), iA 40 (fun _ => nI 0), iA 37 (fun _ => nI 0), iA 4 (fun _ => nI 0), oB 2 [.ref 10, .ref 11, .ref 12], iA 10 (fun _ => nI 0), iA 37 (fun _ => nI 0), iA 37 (fun _ => nI 0)]
theorem C_census (l : Launch) (G : GX) (ad : Nat → Nat)  : Ct l G yX2_init cX2_init 1 none 4 3 84 ad wA3 [.ref 9] (pN 10 ad wB3) := by
  refine Ct.of [some (.ref 9)] (by decide +kernel) (Nat.le_of_ble_eq_true rfl) rfl ?_
  intro p e s m args below meth c A X
  refine V_aload_n0 X dX2_init_0 ?_
  refine V_obj X dX2_init_1 w_128 (Nat.le_of_ble_eq_true rfl) ⟨(Nat.le_of_ble_eq_true rfl), (Nat.le_of_ble_eq_true rfl)⟩ ?_
  refine V_aload_n0 X dX2_init_4 ?_
  refine V_bipushE X (nI 10) dX2_init_5 (by decide +kernel) ?_
  refine V_newa X 10 10 dX2_init_7 rfl (Nat.le_of_ble_eq_true rfl) rfl rfl rfl rfl (Nat.le_of_ble_eq_true rfl) (Nat.le_of_ble_eq_true rfl) (fun a7 ag7 hq7 => ?_)
  have hq7 := hq7.resolve_right (by decide)
  refine V_putF X dX2_init_9 fX2_9 rfl (by first | rfl | assumption) ⟨_, _, rfl⟩ (Nat.le_of_ble_eq_true rfl) rfl rfl ?_
  refine V_aload_n0 X dX2_init_12 ?_
  refine V_bipushE X (nI 37) dX2_init_13 (by decide +kernel) ?_
  refine V_newa X 11 37 dX2_init_15 rfl (Nat.le_of_ble_eq_true rfl) rfl rfl rfl rfl (Nat.le_of_ble_eq_true rfl) (Nat.le_of_ble_eq_true rfl) (fun a8 ag8 hq8 => ?_)
  have hq8 := hq8.resolve_right (by decide)
  refine V_putf X dX2_init_17 fX2_15 (by first | rfl | assumption) (Nat.le_of_ble_eq_true rfl) rfl rfl ?_
  refine V_aload_n0 X dX2_init_20 ?_
  refine V_bipushE X (nI 37) dX2_init_21 (by decide +kernel) ?_
  refine V_newa X 12 37 dX2_init_23 rfl (Nat.le_of_ble_eq_true rfl) rfl rfl rfl rfl (Nat.le_of_ble_eq_true rfl) (Nat.le_of_ble_eq_true rfl) (fun a9 ag9 hq9 => ?_)
  have hq9 := hq9.resolve_right (by decide)
  refine V_putf X dX2_init_25 fX2_18 (by first | rfl | assumption) (Nat.le_of_ble_eq_true rfl) rfl rfl ?_
  exact V_vretG X dX2_init_28 (Nat.le_of_ble_eq_true rfl) (Nat.le_of_ble_eq_true rfl) ⟨((ag7.trans ag8 (Nat.le_of_ble_eq_true rfl)).trans ag9 (Nat.le_of_ble_eq_true rfl)), (hq9.trans (hq8.trans hq7)), rfl, rfl⟩
abbrev wA4 : List CE := [oB 11 [.ref 1, .ref 4, .ref 9, .null, .null, .null, .null, .null, .null, .int (nI 0), .int (nI 0), .int (nI 0), .int (nI 0), .int (nI 0), .int (nI 0)], oB 6 [.ref 2, .int (nI 0)], rA [some 3, some 3, some 3, some 3], oB 4 [], oB 1 [.ref 1, .ref 5, .ref 6, .ref 7, .ref 8, .int (nI 0)], iA 30 (fun _ => nI 0), iA 40 (fun _ => nI 0), iA 37 (fun _ => nI 0), iA 4 (fun _ => nI 0), oB 2 [.ref 10, .ref 11, .ref 12], iA 10 (fun _ => nI 0), iA 37 (fun _ => nI 0), iA 37 (fun _ => nI 0), oB 9 [.null, .null, .null, .int (nI 0), .null, .null, .int (nI 0), .int (nI 0), .int (nI 0)]]
abbrev wB4 : List CE := [oB 11 [.ref 1, .ref 4, .ref 9, .null, .null, .null, .null, .null, .null, .int (nI 0), .int (nI 0), .int (nI 0), .int (nI 0), .int (nI 0), .int (nI 0)], oB 6 [.ref 2, .int (nI 0)], rA [some 3, some 3, some 3, some 3], oB 4 [], oB 1 [.ref 1, .ref 5, .ref 6, .ref 7, .ref 8, .int (nI 0)], iA 30 (fun _ => nI 0), iA 40 (fun _ => nI 0), iA 37 (fun _ => nI 0), iA 4 (fun _ => nI 0), oB 2 [.ref 10, .ref 11, .ref 12], iA 10 (fun _ => nI 0), iA 37 (fun _ => nI 0), iA 37 (fun _ => nI 0), oB 9 [.ref 1, .ref 4, .ref 14, .int (nI 0), .ref 15, .ref 16, .int (nI 0), .int (-1), .int (-1)], iA 10000 (fun _ => nI 0), iA 10000 (fun _ => nI 0), iA 10000 (fun _ => nI 0)]
theorem C_search (l : Launch) (G : GX) (ad : Nat → Nat)  : Ct l G yX9_init cX9_init 3 none 4 3 30000 ad wA4 [.ref 13, .ref 1, .ref 4] (pN 14 ad wB4) := by
  refine Ct.of [some (.ref 13), some (.ref 1), some (.ref 4)] (by decide +kernel) (Nat.le_of_ble_eq_true rfl) rfl ?_
  intro p e s m args below meth c A X
  refine V_aload_n0 X dX9_init_0 ?_
  refine V_obj X dX9_init_1 w_144 (Nat.le_of_ble_eq_true rfl) ⟨(Nat.le_of_ble_eq_true rfl), (Nat.le_of_ble_eq_true rfl)⟩ ?_
  refine V_aload_n0 X dX9_init_4 ?_
  refine V_sipushE X (nI 10000) dX9_init_5 (by decide +kernel) ?_
  refine V_newa X 14 10000 dX9_init_8 rfl (Nat.le_of_ble_eq_true rfl) rfl rfl rfl rfl (Nat.le_of_ble_eq_true rfl) (Nat.le_of_ble_eq_true rfl) (fun a10 ag10 hq10 => ?_)
  have hq10 := hq10.resolve_right (by decide)
  refine V_putF X dX9_init_10 fX9_9 rfl (by first | rfl | assumption) ⟨_, _, rfl⟩ (Nat.le_of_ble_eq_true rfl) rfl rfl ?_
  refine V_aload_n0 X dX9_init_13 ?_
  refine V_iconstE X (nI 0) dX9_init_14 (by decide +kernel) ?_
  refine V_putf X dX9_init_15 fX9_15 (by first | rfl | assumption) (Nat.le_of_ble_eq_true rfl) rfl rfl ?_
  refine V_aload_n0 X dX9_init_18 ?_
  refine V_sipushE X (nI 10000) dX9_init_19 (by decide +kernel) ?_
  refine V_newa X 15 10000 dX9_init_22 rfl (Nat.le_of_ble_eq_true rfl) rfl rfl rfl rfl (Nat.le_of_ble_eq_true rfl) (Nat.le_of_ble_eq_true rfl) (fun a11 ag11 hq11 => ?_)
  have hq11 := hq11.resolve_right (by decide)
  refine V_putf X dX9_init_24 fX9_19 (by first | rfl | assumption) (Nat.le_of_ble_eq_true rfl) rfl rfl ?_
  refine V_aload_n0 X dX9_init_27 ?_
  refine V_sipushE X (nI 10000) dX9_init_28 (by decide +kernel) ?_
  refine V_newa X 16 10000 dX9_init_31 rfl (Nat.le_of_ble_eq_true rfl) rfl rfl rfl rfl (Nat.le_of_ble_eq_true rfl) (Nat.le_of_ble_eq_true rfl) (fun a12 ag12 hq12 => ?_)
  have hq12 := hq12.resolve_right (by decide)
  refine V_putf X dX9_init_33 fX9_22 (by first | rfl | assumption) (Nat.le_of_ble_eq_true rfl) rfl rfl ?_
  refine V_aload_n0 X dX9_init_36 ?_
  refine V_iconstE X (nI 0) dX9_init_37 (by decide +kernel) ?_
  refine V_putf X dX9_init_38 fX9_25 (by first | rfl | assumption) (Nat.le_of_ble_eq_true rfl) rfl rfl ?_
  refine V_aload_n0 X dX9_init_41 ?_
  refine V_iconstE X (-1) dX9_init_42 (by decide +kernel) ?_
  refine V_putf X dX9_init_43 fX9_28 (by first | rfl | assumption) (Nat.le_of_ble_eq_true rfl) rfl rfl ?_
  refine V_aload_n0 X dX9_init_46 ?_
  refine V_iconstE X (-1) dX9_init_47 (by decide +kernel) ?_
  refine V_putf X dX9_init_48 fX9_31 (by first | rfl | assumption) (Nat.le_of_ble_eq_true rfl) rfl rfl ?_
  refine V_aload_n0 X dX9_init_51 ?_
  refine V_aload_n1 X dX9_init_52 ?_
  refine V_putF X dX9_init_53 fX9_34 rfl (by first | rfl | assumption) ⟨_, _, rfl⟩ (Nat.le_of_ble_eq_true rfl) rfl rfl ?_
  refine V_aload_n0 X dX9_init_56 ?_
  refine V_aload_n2 X dX9_init_57 ?_
  refine V_putF X dX9_init_58 fX9_38 rfl (by first | rfl | assumption) ⟨_, _, rfl⟩ (Nat.le_of_ble_eq_true rfl) rfl rfl ?_
  exact V_vretG X dX9_init_61 (Nat.le_of_ble_eq_true rfl) (Nat.le_of_ble_eq_true rfl) ⟨((ag10.trans ag11 (Nat.le_of_ble_eq_true rfl)).trans ag12 (Nat.le_of_ble_eq_true rfl)), (hq12.trans (hq11.trans hq10)), rfl, rfl⟩
abbrev wA5 : List CE := [oB 11 [.ref 1, .ref 4, .ref 9, .ref 13, .null, .null, .null, .null, .null, .int (nI 0), .int (nI 0), .int (nI 0), .int (nI 0), .int (nI 0), .int (nI 0)], oB 6 [.ref 2, .int (nI 0)], rA [some 3, some 3, some 3, some 3], oB 4 [], oB 1 [.ref 1, .ref 5, .ref 6, .ref 7, .ref 8, .int (nI 0)], iA 30 (fun _ => nI 0), iA 40 (fun _ => nI 0), iA 37 (fun _ => nI 0), iA 4 (fun _ => nI 0), oB 2 [.ref 10, .ref 11, .ref 12], iA 10 (fun _ => nI 0), iA 37 (fun _ => nI 0), iA 37 (fun _ => nI 0), oB 9 [.ref 1, .ref 4, .ref 14, .int (nI 0), .ref 15, .ref 16, .int (nI 0), .int (-1), .int (-1)], iA 10000 (fun _ => nI 0), iA 10000 (fun _ => nI 0), iA 10000 (fun _ => nI 0), oB 10 [.null, .null, .null, .null, .int (nI 0), .int (nI 0)]]
abbrev wB5 : List CE := [oB 11 [.ref 1, .ref 4, .ref 9, .ref 13, .null, .null, .null, .null, .null, .int (nI 0), .int (nI 0), .int (nI 0), .int (nI 0), .int (nI 0), .int (nI 0)], oB 6 [.ref 2, .int (nI 0)], rA [some 3, some 3, some 3, some 3], oB 4 [], oB 1 [.ref 1, .ref 5, .ref 6, .ref 7, .ref 8, .int (nI 0)], iA 30 (fun _ => nI 0), iA 40 (fun _ => nI 0), iA 37 (fun _ => nI 0), iA 4 (fun _ => nI 0), oB 2 [.ref 10, .ref 11, .ref 12], iA 10 (fun _ => nI 0), iA 37 (fun _ => nI 0), iA 37 (fun _ => nI 0), oB 9 [.ref 1, .ref 4, .ref 14, .int (nI 0), .ref 15, .ref 16, .int (nI 0), .int (-1), .int (-1)], iA 10000 (fun _ => nI 0), iA 10000 (fun _ => nI 0), iA 10000 (fun _ => nI 0), oB 10 [.ref 1, .ref 18, .ref 19, .ref 20, .int (nI 0), .int (nI 0)], iA 36 (fun _ => nI 0), iA 6 (fun _ => nI 0), iA 6 (fun _ => nI 0)]
theorem C_sorter (l : Launch) (G : GX) (ad : Nat → Nat)  : Ct l G yX10_init cX10_init 2 none 4 3 48 ad wA5 [.ref 17, .ref 1] (pN 18 ad wB5) := by
  refine Ct.of [some (.ref 17), some (.ref 1)] (by decide +kernel) (Nat.le_of_ble_eq_true rfl) rfl ?_
  intro p e s m args below meth c A X
  refine V_aload_n0 X dX10_init_0 ?_
  refine V_obj X dX10_init_1 w_178 (Nat.le_of_ble_eq_true rfl) ⟨(Nat.le_of_ble_eq_true rfl), (Nat.le_of_ble_eq_true rfl)⟩ ?_
  refine V_aload_n0 X dX10_init_4 ?_
  refine V_bipushE X (nI 36) dX10_init_5 (by decide +kernel) ?_
  refine V_newa X 18 36 dX10_init_7 rfl (Nat.le_of_ble_eq_true rfl) rfl rfl rfl rfl (Nat.le_of_ble_eq_true rfl) (Nat.le_of_ble_eq_true rfl) (fun a13 ag13 hq13 => ?_)
  have hq13 := hq13.resolve_right (by decide)
  refine V_putF X dX10_init_9 fX10_9 rfl (by first | rfl | assumption) ⟨_, _, rfl⟩ (Nat.le_of_ble_eq_true rfl) rfl rfl ?_
  refine V_aload_n0 X dX10_init_12 ?_
  refine V_bipushE X (nI 6) dX10_init_13 (by decide +kernel) ?_
  refine V_newa X 19 6 dX10_init_15 rfl (Nat.le_of_ble_eq_true rfl) rfl rfl rfl rfl (Nat.le_of_ble_eq_true rfl) (Nat.le_of_ble_eq_true rfl) (fun a14 ag14 hq14 => ?_)
  have hq14 := hq14.resolve_right (by decide)
  refine V_putF X dX10_init_17 fX10_15 rfl (by first | rfl | assumption) ⟨_, _, rfl⟩ (Nat.le_of_ble_eq_true rfl) rfl rfl ?_
  refine V_aload_n0 X dX10_init_20 ?_
  refine V_bipushE X (nI 6) dX10_init_21 (by decide +kernel) ?_
  refine V_newa X 20 6 dX10_init_23 rfl (Nat.le_of_ble_eq_true rfl) rfl rfl rfl rfl (Nat.le_of_ble_eq_true rfl) (Nat.le_of_ble_eq_true rfl) (fun a15 ag15 hq15 => ?_)
  have hq15 := hq15.resolve_right (by decide)
  refine V_putF X dX10_init_25 fX10_18 rfl (by first | rfl | assumption) ⟨_, _, rfl⟩ (Nat.le_of_ble_eq_true rfl) rfl rfl ?_
  refine V_aload_n0 X dX10_init_28 ?_
  refine V_iconstE X (nI 0) dX10_init_29 (by decide +kernel) ?_
  refine V_putf X dX10_init_30 fX10_21 (by first | rfl | assumption) (Nat.le_of_ble_eq_true rfl) rfl rfl ?_
  refine V_aload_n0 X dX10_init_33 ?_
  refine V_iconstE X (nI 0) dX10_init_34 (by decide +kernel) ?_
  refine V_putf X dX10_init_35 fX10_25 (by first | rfl | assumption) (Nat.le_of_ble_eq_true rfl) rfl rfl ?_
  refine V_aload_n0 X dX10_init_38 ?_
  refine V_aload_n1 X dX10_init_39 ?_
  refine V_putF X dX10_init_40 fX10_28 rfl (by first | rfl | assumption) ⟨_, _, rfl⟩ (Nat.le_of_ble_eq_true rfl) rfl rfl ?_
  exact V_vretG X dX10_init_43 (Nat.le_of_ble_eq_true rfl) (Nat.le_of_ble_eq_true rfl) ⟨((ag13.trans ag14 (Nat.le_of_ble_eq_true rfl)).trans ag15 (Nat.le_of_ble_eq_true rfl)), (hq15.trans (hq14.trans hq13)), rfl, rfl⟩
abbrev wA6 : List CE := [oB 11 [.ref 1, .ref 4, .ref 9, .ref 13, .ref 17, .null, .null, .null, .null, .int (nI 0), .int (nI 0), .int (nI 0), .int (nI 0), .int (nI 0), .int (nI 0)], oB 6 [.ref 2, .int (nI 0)], rA [some 3, some 3, some 3, some 3], oB 4 [], oB 1 [.ref 1, .ref 5, .ref 6, .ref 7, .ref 8, .int (nI 0)], iA 30 (fun _ => nI 0), iA 40 (fun _ => nI 0), iA 37 (fun _ => nI 0), iA 4 (fun _ => nI 0), oB 2 [.ref 10, .ref 11, .ref 12], iA 10 (fun _ => nI 0), iA 37 (fun _ => nI 0), iA 37 (fun _ => nI 0), oB 9 [.ref 1, .ref 4, .ref 14, .int (nI 0), .ref 15, .ref 16, .int (nI 0), .int (-1), .int (-1)], iA 10000 (fun _ => nI 0), iA 10000 (fun _ => nI 0), iA 10000 (fun _ => nI 0), oB 10 [.ref 1, .ref 18, .ref 19, .ref 20, .int (nI 0), .int (nI 0)], iA 36 (fun _ => nI 0), iA 6 (fun _ => nI 0), iA 6 (fun _ => nI 0), oB 7 [.null, .int (nI 0)]]
abbrev wB6 : List CE := [oB 11 [.ref 1, .ref 4, .ref 9, .ref 13, .ref 17, .null, .null, .null, .null, .int (nI 0), .int (nI 0), .int (nI 0), .int (nI 0), .int (nI 0), .int (nI 0)], oB 6 [.ref 2, .int (nI 0)], rA [some 3, some 3, some 3, some 3], oB 4 [], oB 1 [.ref 1, .ref 5, .ref 6, .ref 7, .ref 8, .int (nI 0)], iA 30 (fun _ => nI 0), iA 40 (fun _ => nI 0), iA 37 (fun _ => nI 0), iA 4 (fun _ => nI 0), oB 2 [.ref 10, .ref 11, .ref 12], iA 10 (fun _ => nI 0), iA 37 (fun _ => nI 0), iA 37 (fun _ => nI 0), oB 9 [.ref 1, .ref 4, .ref 14, .int (nI 0), .ref 15, .ref 16, .int (nI 0), .int (-1), .int (-1)], iA 10000 (fun _ => nI 0), iA 10000 (fun _ => nI 0), iA 10000 (fun _ => nI 0), oB 10 [.ref 1, .ref 18, .ref 19, .ref 20, .int (nI 0), .int (nI 0)], iA 36 (fun _ => nI 0), iA 6 (fun _ => nI 0), iA 6 (fun _ => nI 0), oB 7 [.ref 22, .int (nI 0)], iA 10 (fun _ => nI 0)]
theorem C_row0 (l : Launch) (G : GX) (ad : Nat → Nat)  : Ct l G yX7_init cX7_init 2 none 4 1 10 ad wA6 [.ref 21, .int (nI 10)] (pN 22 ad wB6) := by
  refine Ct.of [some (.ref 21), some (.int (nI 10))] (by decide +kernel) (Nat.le_of_ble_eq_true rfl) rfl ?_
  intro p e s m args below meth c A X
  refine V_aload_n0 X dX7_init_0 ?_
  refine V_obj X dX7_init_1 w_203 (Nat.le_of_ble_eq_true rfl) ⟨(Nat.le_of_ble_eq_true rfl), (Nat.le_of_ble_eq_true rfl)⟩ ?_
  refine V_aload_n0 X dX7_init_4 ?_
  refine V_iconstE X (nI 0) dX7_init_5 (by decide +kernel) ?_
  refine V_putf X dX7_init_6 fX7_9 (by first | rfl | assumption) (Nat.le_of_ble_eq_true rfl) rfl rfl ?_
  refine V_aload_n0 X dX7_init_9 ?_
  refine V_iconstE X (nI 0) dX7_init_10 (by decide +kernel) ?_
  refine V_iload_n1 X dX7_init_11 ?_
  refine V_cS2I X dX7_init_12 kX7_15 (t_max l G _ _ (nI 0) (nI 10)) (Nat.le_of_ble_eq_true rfl) ⟨⟨Nat.le_of_ble_eq_true rfl, Nat.le_of_ble_eq_true rfl⟩, Nat.le_of_ble_eq_true rfl, Nat.le_of_ble_eq_true rfl⟩ (fun r ws2 hc => ?_)
  obtain ⟨rfl, hw9⟩ := hc
  obtain rfl := hw9.symm
  refine V_newa X 22 10 dX7_init_15 (by decide) (Nat.le_of_ble_eq_true rfl) rfl rfl rfl rfl (Nat.le_of_ble_eq_true rfl) (Nat.le_of_ble_eq_true rfl) (fun a16 ag16 hq16 => ?_)
  have hq16 := hq16.resolve_right (by decide)
  refine V_putF X dX7_init_17 fX7_21 rfl (by first | rfl | assumption) ⟨_, _, rfl⟩ (Nat.le_of_ble_eq_true rfl) rfl rfl ?_
  exact V_vretG X dX7_init_20 (Nat.le_of_ble_eq_true rfl) (Nat.le_of_ble_eq_true rfl) ⟨ag16, hq16, rfl, rfl⟩
abbrev wA7 : List CE := [oB 11 [.ref 1, .ref 4, .ref 9, .ref 13, .ref 17, .ref 21, .null, .null, .null, .int (nI 0), .int (nI 0), .int (nI 0), .int (nI 0), .int (nI 0), .int (nI 0)], oB 6 [.ref 2, .int (nI 0)], rA [some 3, some 3, some 3, some 3], oB 4 [], oB 1 [.ref 1, .ref 5, .ref 6, .ref 7, .ref 8, .int (nI 0)], iA 30 (fun _ => nI 0), iA 40 (fun _ => nI 0), iA 37 (fun _ => nI 0), iA 4 (fun _ => nI 0), oB 2 [.ref 10, .ref 11, .ref 12], iA 10 (fun _ => nI 0), iA 37 (fun _ => nI 0), iA 37 (fun _ => nI 0), oB 9 [.ref 1, .ref 4, .ref 14, .int (nI 0), .ref 15, .ref 16, .int (nI 0), .int (-1), .int (-1)], iA 10000 (fun _ => nI 0), iA 10000 (fun _ => nI 0), iA 10000 (fun _ => nI 0), oB 10 [.ref 1, .ref 18, .ref 19, .ref 20, .int (nI 0), .int (nI 0)], iA 36 (fun _ => nI 0), iA 6 (fun _ => nI 0), iA 6 (fun _ => nI 0), oB 7 [.ref 22, .int (nI 0)], iA 10 (fun _ => nI 0), oB 7 [.null, .int (nI 0)]]
abbrev wB7 : List CE := [oB 11 [.ref 1, .ref 4, .ref 9, .ref 13, .ref 17, .ref 21, .null, .null, .null, .int (nI 0), .int (nI 0), .int (nI 0), .int (nI 0), .int (nI 0), .int (nI 0)], oB 6 [.ref 2, .int (nI 0)], rA [some 3, some 3, some 3, some 3], oB 4 [], oB 1 [.ref 1, .ref 5, .ref 6, .ref 7, .ref 8, .int (nI 0)], iA 30 (fun _ => nI 0), iA 40 (fun _ => nI 0), iA 37 (fun _ => nI 0), iA 4 (fun _ => nI 0), oB 2 [.ref 10, .ref 11, .ref 12], iA 10 (fun _ => nI 0), iA 37 (fun _ => nI 0), iA 37 (fun _ => nI 0), oB 9 [.ref 1, .ref 4, .ref 14, .int (nI 0), .ref 15, .ref 16, .int (nI 0), .int (-1), .int (-1)], iA 10000 (fun _ => nI 0), iA 10000 (fun _ => nI 0), iA 10000 (fun _ => nI 0), oB 10 [.ref 1, .ref 18, .ref 19, .ref 20, .int (nI 0), .int (nI 0)], iA 36 (fun _ => nI 0), iA 6 (fun _ => nI 0), iA 6 (fun _ => nI 0), oB 7 [.ref 22, .int (nI 0)], iA 10 (fun _ => nI 0), oB 7 [.ref 24, .int (nI 0)], iA 60 (fun _ => nI 0)]
theorem C_row1 (l : Launch) (G : GX) (ad : Nat → Nat)  : Ct l G yX7_init cX7_init 2 none 4 1 60 ad wA7 [.ref 23, .int (nI 60)] (pN 24 ad wB7) := by
  refine Ct.of [some (.ref 23), some (.int (nI 60))] (by decide +kernel) (Nat.le_of_ble_eq_true rfl) rfl ?_
  intro p e s m args below meth c A X
  refine V_aload_n0 X dX7_init_0 ?_
  refine V_obj X dX7_init_1 w_203 (Nat.le_of_ble_eq_true rfl) ⟨(Nat.le_of_ble_eq_true rfl), (Nat.le_of_ble_eq_true rfl)⟩ ?_
  refine V_aload_n0 X dX7_init_4 ?_
  refine V_iconstE X (nI 0) dX7_init_5 (by decide +kernel) ?_
  refine V_putf X dX7_init_6 fX7_9 (by first | rfl | assumption) (Nat.le_of_ble_eq_true rfl) rfl rfl ?_
  refine V_aload_n0 X dX7_init_9 ?_
  refine V_iconstE X (nI 0) dX7_init_10 (by decide +kernel) ?_
  refine V_iload_n1 X dX7_init_11 ?_
  refine V_cS2I X dX7_init_12 kX7_15 (t_max l G _ _ (nI 0) (nI 60)) (Nat.le_of_ble_eq_true rfl) ⟨⟨Nat.le_of_ble_eq_true rfl, Nat.le_of_ble_eq_true rfl⟩, Nat.le_of_ble_eq_true rfl, Nat.le_of_ble_eq_true rfl⟩ (fun r ws2 hc => ?_)
  obtain ⟨rfl, hw9⟩ := hc
  obtain rfl := hw9.symm
  refine V_newa X 24 60 dX7_init_15 (by decide) (Nat.le_of_ble_eq_true rfl) rfl rfl rfl rfl (Nat.le_of_ble_eq_true rfl) (Nat.le_of_ble_eq_true rfl) (fun a17 ag17 hq17 => ?_)
  have hq17 := hq17.resolve_right (by decide)
  refine V_putF X dX7_init_17 fX7_21 rfl (by first | rfl | assumption) ⟨_, _, rfl⟩ (Nat.le_of_ble_eq_true rfl) rfl rfl ?_
  exact V_vretG X dX7_init_20 (Nat.le_of_ble_eq_true rfl) (Nat.le_of_ble_eq_true rfl) ⟨ag17, hq17, rfl, rfl⟩
abbrev wA8 : List CE := [oB 11 [.ref 1, .ref 4, .ref 9, .ref 13, .ref 17, .ref 21, .ref 23, .null, .null, .int (nI 0), .int (nI 0), .int (nI 0), .int (nI 0), .int (nI 0), .int (nI 0)], oB 6 [.ref 2, .int (nI 0)], rA [some 3, some 3, some 3, some 3], oB 4 [], oB 1 [.ref 1, .ref 5, .ref 6, .ref 7, .ref 8, .int (nI 0)], iA 30 (fun _ => nI 0), iA 40 (fun _ => nI 0), iA 37 (fun _ => nI 0), iA 4 (fun _ => nI 0), oB 2 [.ref 10, .ref 11, .ref 12], iA 10 (fun _ => nI 0), iA 37 (fun _ => nI 0), iA 37 (fun _ => nI 0), oB 9 [.ref 1, .ref 4, .ref 14, .int (nI 0), .ref 15, .ref 16, .int (nI 0), .int (-1), .int (-1)], iA 10000 (fun _ => nI 0), iA 10000 (fun _ => nI 0), iA 10000 (fun _ => nI 0), oB 10 [.ref 1, .ref 18, .ref 19, .ref 20, .int (nI 0), .int (nI 0)], iA 36 (fun _ => nI 0), iA 6 (fun _ => nI 0), iA 6 (fun _ => nI 0), oB 7 [.ref 22, .int (nI 0)], iA 10 (fun _ => nI 0), oB 7 [.ref 24, .int (nI 0)], iA 60 (fun _ => nI 0), oB 7 [.null, .int (nI 0)]]
abbrev wB8 : List CE := [oB 11 [.ref 1, .ref 4, .ref 9, .ref 13, .ref 17, .ref 21, .ref 23, .null, .null, .int (nI 0), .int (nI 0), .int (nI 0), .int (nI 0), .int (nI 0), .int (nI 0)], oB 6 [.ref 2, .int (nI 0)], rA [some 3, some 3, some 3, some 3], oB 4 [], oB 1 [.ref 1, .ref 5, .ref 6, .ref 7, .ref 8, .int (nI 0)], iA 30 (fun _ => nI 0), iA 40 (fun _ => nI 0), iA 37 (fun _ => nI 0), iA 4 (fun _ => nI 0), oB 2 [.ref 10, .ref 11, .ref 12], iA 10 (fun _ => nI 0), iA 37 (fun _ => nI 0), iA 37 (fun _ => nI 0), oB 9 [.ref 1, .ref 4, .ref 14, .int (nI 0), .ref 15, .ref 16, .int (nI 0), .int (-1), .int (-1)], iA 10000 (fun _ => nI 0), iA 10000 (fun _ => nI 0), iA 10000 (fun _ => nI 0), oB 10 [.ref 1, .ref 18, .ref 19, .ref 20, .int (nI 0), .int (nI 0)], iA 36 (fun _ => nI 0), iA 6 (fun _ => nI 0), iA 6 (fun _ => nI 0), oB 7 [.ref 22, .int (nI 0)], iA 10 (fun _ => nI 0), oB 7 [.ref 24, .int (nI 0)], iA 60 (fun _ => nI 0), oB 7 [.ref 26, .int (nI 0)], iA 6 (fun _ => nI 0)]
theorem C_row2 (l : Launch) (G : GX) (ad : Nat → Nat)  : Ct l G yX7_init cX7_init 2 none 4 1 6 ad wA8 [.ref 25, .int (nI 6)] (pN 26 ad wB8) := by
  refine Ct.of [some (.ref 25), some (.int (nI 6))] (by decide +kernel) (Nat.le_of_ble_eq_true rfl) rfl ?_
  intro p e s m args below meth c A X
  refine V_aload_n0 X dX7_init_0 ?_
  refine V_obj X dX7_init_1 w_203 (Nat.le_of_ble_eq_true rfl) ⟨(Nat.le_of_ble_eq_true rfl), (Nat.le_of_ble_eq_true rfl)⟩ ?_
  refine V_aload_n0 X dX7_init_4 ?_
  refine V_iconstE X (nI 0) dX7_init_5 (by decide +kernel) ?_
  refine V_putf X dX7_init_6 fX7_9 (by first | rfl | assumption) (Nat.le_of_ble_eq_true rfl) rfl rfl ?_
  refine V_aload_n0 X dX7_init_9 ?_
  refine V_iconstE X (nI 0) dX7_init_10 (by decide +kernel) ?_
  refine V_iload_n1 X dX7_init_11 ?_
  refine V_cS2I X dX7_init_12 kX7_15 (t_max l G _ _ (nI 0) (nI 6)) (Nat.le_of_ble_eq_true rfl) ⟨⟨Nat.le_of_ble_eq_true rfl, Nat.le_of_ble_eq_true rfl⟩, Nat.le_of_ble_eq_true rfl, Nat.le_of_ble_eq_true rfl⟩ (fun r ws2 hc => ?_)
  obtain ⟨rfl, hw9⟩ := hc
  obtain rfl := hw9.symm
  refine V_newa X 26 6 dX7_init_15 (by decide) (Nat.le_of_ble_eq_true rfl) rfl rfl rfl rfl (Nat.le_of_ble_eq_true rfl) (Nat.le_of_ble_eq_true rfl) (fun a18 ag18 hq18 => ?_)
  have hq18 := hq18.resolve_right (by decide)
  refine V_putF X dX7_init_17 fX7_21 rfl (by first | rfl | assumption) ⟨_, _, rfl⟩ (Nat.le_of_ble_eq_true rfl) rfl rfl ?_
  exact V_vretG X dX7_init_20 (Nat.le_of_ble_eq_true rfl) (Nat.le_of_ble_eq_true rfl) ⟨ag18, hq18, rfl, rfl⟩
abbrev wA9 : List CE := [oB 11 [.ref 1, .ref 4, .ref 9, .ref 13, .ref 17, .ref 21, .ref 23, .ref 25, .null, .int (nI 0), .int (nI 0), .int (nI 0), .int (nI 0), .int (nI 0), .int (nI 0)], oB 6 [.ref 2, .int (nI 0)], rA [some 3, some 3, some 3, some 3], oB 4 [], oB 1 [.ref 1, .ref 5, .ref 6, .ref 7, .ref 8, .int (nI 0)], iA 30 (fun _ => nI 0), iA 40 (fun _ => nI 0), iA 37 (fun _ => nI 0), iA 4 (fun _ => nI 0), oB 2 [.ref 10, .ref 11, .ref 12], iA 10 (fun _ => nI 0), iA 37 (fun _ => nI 0), iA 37 (fun _ => nI 0), oB 9 [.ref 1, .ref 4, .ref 14, .int (nI 0), .ref 15, .ref 16, .int (nI 0), .int (-1), .int (-1)], iA 10000 (fun _ => nI 0), iA 10000 (fun _ => nI 0), iA 10000 (fun _ => nI 0), oB 10 [.ref 1, .ref 18, .ref 19, .ref 20, .int (nI 0), .int (nI 0)], iA 36 (fun _ => nI 0), iA 6 (fun _ => nI 0), iA 6 (fun _ => nI 0), oB 7 [.ref 22, .int (nI 0)], iA 10 (fun _ => nI 0), oB 7 [.ref 24, .int (nI 0)], iA 60 (fun _ => nI 0), oB 7 [.ref 26, .int (nI 0)], iA 6 (fun _ => nI 0), oB 7 [.null, .int (nI 0)]]
abbrev wB9 : List CE := [oB 11 [.ref 1, .ref 4, .ref 9, .ref 13, .ref 17, .ref 21, .ref 23, .ref 25, .null, .int (nI 0), .int (nI 0), .int (nI 0), .int (nI 0), .int (nI 0), .int (nI 0)], oB 6 [.ref 2, .int (nI 0)], rA [some 3, some 3, some 3, some 3], oB 4 [], oB 1 [.ref 1, .ref 5, .ref 6, .ref 7, .ref 8, .int (nI 0)], iA 30 (fun _ => nI 0), iA 40 (fun _ => nI 0), iA 37 (fun _ => nI 0), iA 4 (fun _ => nI 0), oB 2 [.ref 10, .ref 11, .ref 12], iA 10 (fun _ => nI 0), iA 37 (fun _ => nI 0), iA 37 (fun _ => nI 0), oB 9 [.ref 1, .ref 4, .ref 14, .int (nI 0), .ref 15, .ref 16, .int (nI 0), .int (-1), .int (-1)], iA 10000 (fun _ => nI 0), iA 10000 (fun _ => nI 0), iA 10000 (fun _ => nI 0), oB 10 [.ref 1, .ref 18, .ref 19, .ref 20, .int (nI 0), .int (nI 0)], iA 36 (fun _ => nI 0), iA 6 (fun _ => nI 0), iA 6 (fun _ => nI 0), oB 7 [.ref 22, .int (nI 0)], iA 10 (fun _ => nI 0), oB 7 [.ref 24, .int (nI 0)], iA 60 (fun _ => nI 0), oB 7 [.ref 26, .int (nI 0)], iA 6 (fun _ => nI 0), oB 7 [.ref 28, .int (nI 0)], iA 6 (fun _ => nI 0)]
theorem C_row3 (l : Launch) (G : GX) (ad : Nat → Nat)  : Ct l G yX7_init cX7_init 2 none 4 1 6 ad wA9 [.ref 27, .int (nI 6)] (pN 28 ad wB9) := by
  refine Ct.of [some (.ref 27), some (.int (nI 6))] (by decide +kernel) (Nat.le_of_ble_eq_true rfl) rfl ?_
  intro p e s m args below meth c A X
  refine V_aload_n0 X dX7_init_0 ?_
  refine V_obj X dX7_init_1 w_203 (Nat.le_of_ble_eq_true rfl) ⟨(Nat.le_of_ble_eq_true rfl), (Nat.le_of_ble_eq_true rfl)⟩ ?_
  refine V_aload_n0 X dX7_init_4 ?_
  refine V_iconstE X (nI 0) dX7_init_5 (by decide +kernel) ?_
  refine V_putf X dX7_init_6 fX7_9 (by first | rfl | assumption) (Nat.le_of_ble_eq_true rfl) rfl rfl ?_
  refine V_aload_n0 X dX7_init_9 ?_
  refine V_iconstE X (nI 0) dX7_init_10 (by decide +kernel) ?_
  refine V_iload_n1 X dX7_init_11 ?_
  refine V_cS2I X dX7_init_12 kX7_15 (t_max l G _ _ (nI 0) (nI 6)) (Nat.le_of_ble_eq_true rfl) ⟨⟨Nat.le_of_ble_eq_true rfl, Nat.le_of_ble_eq_true rfl⟩, Nat.le_of_ble_eq_true rfl, Nat.le_of_ble_eq_true rfl⟩ (fun r ws2 hc => ?_)
  obtain ⟨rfl, hw9⟩ := hc
  obtain rfl := hw9.symm
  refine V_newa X 28 6 dX7_init_15 (by decide) (Nat.le_of_ble_eq_true rfl) rfl rfl rfl rfl (Nat.le_of_ble_eq_true rfl) (Nat.le_of_ble_eq_true rfl) (fun a19 ag19 hq19 => ?_)
  have hq19 := hq19.resolve_right (by decide)
  refine V_putF X dX7_init_17 fX7_21 rfl (by first | rfl | assumption) ⟨_, _, rfl⟩ (Nat.le_of_ble_eq_true rfl) rfl rfl ?_
  exact V_vretG X dX7_init_20 (Nat.le_of_ble_eq_true rfl) (Nat.le_of_ble_eq_true rfl) ⟨ag19, hq19, rfl, rfl⟩
abbrev wLL0 : List CE := [oB 11 [.null, .null, .null, .null, .null, .null, .null, .null, .null, .int (nI 0), .int (nI 0), .int (nI 0), .int (nI 0), .int (nI 0), .int (nI 0)]]
abbrev wLL : List CE := [oB 11 [.ref 1, .ref 4, .ref 9, .ref 13, .ref 17, .ref 21, .ref 23, .ref 25, .ref 27, .int (nI 0), .int (nI 0), .int (nI 0), .int (nI 0), .int (nI 0), .int (nI 0)], oB 6 [.ref 2, .int (nI 0)], rA [some 3, some 3, some 3, some 3], oB 4 [], oB 1 [.ref 1, .ref 5, .ref 6, .ref 7, .ref 8, .int (nI 0)], iA 30 (fun _ => nI 0), iA 40 (fun _ => nI 0), iA 37 (fun _ => nI 0), iA 4 (fun _ => nI 0), oB 2 [.ref 10, .ref 11, .ref 12], iA 10 (fun _ => nI 0), iA 37 (fun _ => nI 0), iA 37 (fun _ => nI 0), oB 9 [.ref 1, .ref 4, .ref 14, .int (nI 0), .ref 15, .ref 16, .int (nI 0), .int (-1), .int (-1)], iA 10000 (fun _ => nI 0), iA 10000 (fun _ => nI 0), iA 10000 (fun _ => nI 0), oB 10 [.ref 1, .ref 18, .ref 19, .ref 20, .int (nI 0), .int (nI 0)], iA 36 (fun _ => nI 0), iA 6 (fun _ => nI 0), iA 6 (fun _ => nI 0), oB 7 [.ref 22, .int (nI 0)], iA 10 (fun _ => nI 0), oB 7 [.ref 24, .int (nI 0)], iA 60 (fun _ => nI 0), oB 7 [.ref 26, .int (nI 0)], iA 6 (fun _ => nI 0), oB 7 [.ref 28, .int (nI 0)], iA 6 (fun _ => nI 0)]
theorem C_like (l : Launch) (G : GX) (ad : Nat → Nat)  : Ct l G yX11_init cX11_init 1 none 6 28 30363 ad wLL0 [.ref 0] (pN 1 ad wLL) := by
  refine Ct.of [some (.ref 0)] (by decide +kernel) (Nat.le_of_ble_eq_true rfl) rfl ?_
  intro p e s m args below meth c A X
  refine V_aload_n0 X dX11_init_0 ?_
  refine V_obj X dX11_init_1 w_73 (Nat.le_of_ble_eq_true rfl) ⟨(Nat.le_of_ble_eq_true rfl), (Nat.le_of_ble_eq_true rfl)⟩ ?_
  refine V_aload_n0 X dX11_init_4 ?_
  refine V_new X 1 dX11_init_5 nwX11_9 (fun _ => rfl) rfl rfl rfl rfl (Nat.le_of_ble_eq_true rfl) (Nat.le_of_ble_eq_true rfl) (fun a20 ag20 hq20 => ?_)
  have hq20 := hq20.resolve_right (by decide)
  refine V_dup X dX11_init_8 rfl ?_
  refine V_gN (as := []) X dX11_init_9 kX11_11 (C_looks l G _) rfl (Nat.le_of_ble_eq_true rfl) ⟨⟨Nat.le_of_ble_eq_true rfl, Nat.le_of_ble_eq_true rfl⟩, Nat.le_of_ble_eq_true rfl, Nat.le_of_ble_eq_true rfl⟩ (fun a21 v21 w21 hp21 => ?_)
  obtain ⟨ag21, hq21, rfl, rfl⟩ := hp21
  refine ⟨st_ok ag21 rfl, lvp_ok ag21 0 rfl, ?_⟩
  refine V_putF X dX11_init_12 fX11_12 rfl (by first | rfl | assumption) ⟨_, _, rfl⟩ (Nat.le_of_ble_eq_true rfl) rfl rfl ?_
  refine V_aload_n0 X dX11_init_15 ?_
  refine V_new X 4 dX11_init_16 nwX11_16 (fun _ => rfl) rfl rfl rfl rfl (Nat.le_of_ble_eq_true rfl) (Nat.le_of_ble_eq_true rfl) (fun a22 ag22 hq22 => ?_)
  have hq22 := hq22.resolve_right (by decide)
  refine V_dup X dX11_init_19 rfl ?_
  refine V_aload_n0 X dX11_init_20 ?_
  refine V_getf X dX11_init_21 fX11_12 (by first | rfl | assumption) (by rfl) ?_
  refine V_gN (as := [.ref 1]) X dX11_init_24 kX11_18 (C_bench l G _) rfl (Nat.le_of_ble_eq_true rfl) ⟨⟨Nat.le_of_ble_eq_true rfl, Nat.le_of_ble_eq_true rfl⟩, Nat.le_of_ble_eq_true rfl, Nat.le_of_ble_eq_true rfl⟩ (fun a23 v23 w23 hp23 => ?_)
  obtain ⟨ag23, hq23, rfl, rfl⟩ := hp23
  refine ⟨st_ok ag23 rfl, lvp_ok ag23 0 rfl, ?_⟩
  refine V_putF X dX11_init_27 fX11_21 rfl (by first | rfl | assumption) ⟨_, _, rfl⟩ (Nat.le_of_ble_eq_true rfl) rfl rfl ?_
  refine V_aload_n0 X dX11_init_30 ?_
  refine V_new X 9 dX11_init_31 nwX11_25 (fun _ => rfl) rfl rfl rfl rfl (Nat.le_of_ble_eq_true rfl) (Nat.le_of_ble_eq_true rfl) (fun a24 ag24 hq24 => ?_)
  have hq24 := hq24.resolve_right (by decide)
  refine V_dup X dX11_init_34 rfl ?_
  refine V_gN (as := []) X dX11_init_35 kX11_27 (C_census l G _) rfl (Nat.le_of_ble_eq_true rfl) ⟨⟨Nat.le_of_ble_eq_true rfl, Nat.le_of_ble_eq_true rfl⟩, Nat.le_of_ble_eq_true rfl, Nat.le_of_ble_eq_true rfl⟩ (fun a25 v25 w25 hp25 => ?_)
  obtain ⟨ag25, hq25, rfl, rfl⟩ := hp25
  refine ⟨st_ok ag25 rfl, lvp_ok ag25 0 rfl, ?_⟩
  refine V_putF X dX11_init_38 fX11_28 rfl (by first | rfl | assumption) ⟨_, _, rfl⟩ (Nat.le_of_ble_eq_true rfl) rfl rfl ?_
  refine V_aload_n0 X dX11_init_41 ?_
  refine V_new X 13 dX11_init_42 nwX11_32 (fun _ => rfl) rfl rfl rfl rfl (Nat.le_of_ble_eq_true rfl) (Nat.le_of_ble_eq_true rfl) (fun a26 ag26 hq26 => ?_)
  have hq26 := hq26.resolve_right (by decide)
  refine V_dup X dX11_init_45 rfl ?_
  refine V_aload_n0 X dX11_init_46 ?_
  refine V_getf X dX11_init_47 fX11_12 (by first | rfl | assumption) (by rfl) ?_
  refine V_aload_n0 X dX11_init_50 ?_
  refine V_getf X dX11_init_51 fX11_21 (by first | rfl | assumption) (by rfl) ?_
  refine V_gN (as := [.ref 1, .ref 4]) X dX11_init_54 kX11_34 (C_search l G _) rfl (Nat.le_of_ble_eq_true rfl) ⟨⟨Nat.le_of_ble_eq_true rfl, Nat.le_of_ble_eq_true rfl⟩, Nat.le_of_ble_eq_true rfl, Nat.le_of_ble_eq_true rfl⟩ (fun a27 v27 w27 hp27 => ?_)
  obtain ⟨ag27, hq27, rfl, rfl⟩ := hp27
  refine ⟨st_ok ag27 rfl, lvp_ok ag27 0 rfl, ?_⟩
  refine V_putF X dX11_init_57 fX11_37 rfl (by first | rfl | assumption) ⟨_, _, rfl⟩ (Nat.le_of_ble_eq_true rfl) rfl rfl ?_
  refine V_aload_n0 X dX11_init_60 ?_
  refine V_new X 17 dX11_init_61 nwX11_41 (fun _ => rfl) rfl rfl rfl rfl (Nat.le_of_ble_eq_true rfl) (Nat.le_of_ble_eq_true rfl) (fun a28 ag28 hq28 => ?_)
  have hq28 := hq28.resolve_right (by decide)
  refine V_dup X dX11_init_64 rfl ?_
  refine V_aload_n0 X dX11_init_65 ?_
  refine V_getf X dX11_init_66 fX11_12 (by first | rfl | assumption) (by rfl) ?_
  refine V_gN (as := [.ref 1]) X dX11_init_69 kX11_43 (C_sorter l G _) rfl (Nat.le_of_ble_eq_true rfl) ⟨⟨Nat.le_of_ble_eq_true rfl, Nat.le_of_ble_eq_true rfl⟩, Nat.le_of_ble_eq_true rfl, Nat.le_of_ble_eq_true rfl⟩ (fun a29 v29 w29 hp29 => ?_)
  obtain ⟨ag29, hq29, rfl, rfl⟩ := hp29
  refine ⟨st_ok ag29 rfl, lvp_ok ag29 0 rfl, ?_⟩
  refine V_putF X dX11_init_72 fX11_44 rfl (by first | rfl | assumption) ⟨_, _, rfl⟩ (Nat.le_of_ble_eq_true rfl) rfl rfl ?_
  refine V_aload_n0 X dX11_init_75 ?_
  refine V_new X 21 dX11_init_76 nwX11_48 (fun _ => rfl) rfl rfl rfl rfl (Nat.le_of_ble_eq_true rfl) (Nat.le_of_ble_eq_true rfl) (fun a30 ag30 hq30 => ?_)
  have hq30 := hq30.resolve_right (by decide)
  refine V_dup X dX11_init_79 rfl ?_
  refine V_bipushE X (nI 10) dX11_init_80 (by decide +kernel) ?_
  refine V_gN (as := [.int (nI 10)]) X dX11_init_82 kX11_50 (C_row0 l G _) rfl (Nat.le_of_ble_eq_true rfl) ⟨⟨Nat.le_of_ble_eq_true rfl, Nat.le_of_ble_eq_true rfl⟩, Nat.le_of_ble_eq_true rfl, Nat.le_of_ble_eq_true rfl⟩ (fun a31 v31 w31 hp31 => ?_)
  obtain ⟨ag31, hq31, rfl, rfl⟩ := hp31
  refine ⟨st_ok ag31 rfl, lvp_ok ag31 0 rfl, ?_⟩
  refine V_putF X dX11_init_85 fX11_53 rfl (by first | rfl | assumption) ⟨_, _, rfl⟩ (Nat.le_of_ble_eq_true rfl) rfl rfl ?_
  refine V_aload_n0 X dX11_init_88 ?_
  refine V_new X 23 dX11_init_89 nwX11_48 (fun _ => rfl) rfl rfl rfl rfl (Nat.le_of_ble_eq_true rfl) (Nat.le_of_ble_eq_true rfl) (fun a32 ag32 hq32 => ?_)
  have hq32 := hq32.resolve_right (by decide)
  refine V_dup X dX11_init_92 rfl ?_
  refine V_bipushE X (nI 60) dX11_init_93 (by decide +kernel) ?_
  refine V_gN (as := [.int (nI 60)]) X dX11_init_95 kX11_50 (C_row1 l G _) rfl (Nat.le_of_ble_eq_true rfl) ⟨⟨Nat.le_of_ble_eq_true rfl, Nat.le_of_ble_eq_true rfl⟩, Nat.le_of_ble_eq_true rfl, Nat.le_of_ble_eq_true rfl⟩ (fun a33 v33 w33 hp33 => ?_)
  obtain ⟨ag33, hq33, rfl, rfl⟩ := hp33
  refine ⟨st_ok ag33 rfl, lvp_ok ag33 0 rfl, ?_⟩
  refine V_putF X dX11_init_98 fX11_57 rfl (by first | rfl | assumption) ⟨_, _, rfl⟩ (Nat.le_of_ble_eq_true rfl) rfl rfl ?_
  refine V_aload_n0 X dX11_init_101 ?_
  refine V_new X 25 dX11_init_102 nwX11_48 (fun _ => rfl) rfl rfl rfl rfl (Nat.le_of_ble_eq_true rfl) (Nat.le_of_ble_eq_true rfl) (fun a34 ag34 hq34 => ?_)
  have hq34 := hq34.resolve_right (by decide)
  refine V_dup X dX11_init_105 rfl ?_
  refine V_bipushE X (nI 6) dX11_init_106 (by decide +kernel) ?_
  refine V_gN (as := [.int (nI 6)]) X dX11_init_108 kX11_50 (C_row2 l G _) rfl (Nat.le_of_ble_eq_true rfl) ⟨⟨Nat.le_of_ble_eq_true rfl, Nat.le_of_ble_eq_true rfl⟩, Nat.le_of_ble_eq_true rfl, Nat.le_of_ble_eq_true rfl⟩ (fun a35 v35 w35 hp35 => ?_)
  obtain ⟨ag35, hq35, rfl, rfl⟩ := hp35
  refine ⟨st_ok ag35 rfl, lvp_ok ag35 0 rfl, ?_⟩
  refine V_putF X dX11_init_111 fX11_60 rfl (by first | rfl | assumption) ⟨_, _, rfl⟩ (Nat.le_of_ble_eq_true rfl) rfl rfl ?_
  refine V_aload_n0 X dX11_init_114 ?_
  refine V_new X 27 dX11_init_115 nwX11_48 (fun _ => rfl) rfl rfl rfl rfl (Nat.le_of_ble_eq_true rfl) (Nat.le_of_ble_eq_true rfl) (fun a36 ag36 hq36 => ?_)
  have hq36 := hq36.resolve_right (by decide)
  refine V_dup X dX11_init_118 rfl ?_
  refine V_bipushE X (nI 6) dX11_init_119 (by decide +kernel) ?_
  refine V_gN (as := [.int (nI 6)]) X dX11_init_121 kX11_50 (C_row3 l G _) rfl (Nat.le_of_ble_eq_true rfl) ⟨⟨Nat.le_of_ble_eq_true rfl, Nat.le_of_ble_eq_true rfl⟩, Nat.le_of_ble_eq_true rfl, Nat.le_of_ble_eq_true rfl⟩ (fun a37 v37 w37 hp37 => ?_)
  obtain ⟨ag37, hq37, rfl, rfl⟩ := hp37
  refine ⟨st_ok ag37 rfl, lvp_ok ag37 0 rfl, ?_⟩
  refine V_putF X dX11_init_124 fX11_63 rfl (by first | rfl | assumption) ⟨_, _, rfl⟩ (Nat.le_of_ble_eq_true rfl) rfl rfl ?_
  refine V_aload_n0 X dX11_init_127 ?_
  refine V_iconstE X (nI 0) dX11_init_128 (by decide +kernel) ?_
  refine V_putf X dX11_init_129 fX11_66 (by first | rfl | assumption) (Nat.le_of_ble_eq_true rfl) rfl rfl ?_
  refine V_aload_n0 X dX11_init_132 ?_
  refine V_iconstE X (nI 0) dX11_init_133 (by decide +kernel) ?_
  refine V_putf X dX11_init_134 fX11_70 (by first | rfl | assumption) (Nat.le_of_ble_eq_true rfl) rfl rfl ?_
  refine V_aload_n0 X dX11_init_137 ?_
  refine V_iconstE X (nI 0) dX11_init_138 (by decide +kernel) ?_
  refine V_putf X dX11_init_139 fX11_73 (by first | rfl | assumption) (Nat.le_of_ble_eq_true rfl) rfl rfl ?_
  refine V_aload_n0 X dX11_init_142 ?_
  refine V_iconstE X (nI 0) dX11_init_143 (by decide +kernel) ?_
  refine V_putf X dX11_init_144 fX11_76 (by first | rfl | assumption) (Nat.le_of_ble_eq_true rfl) rfl rfl ?_
  refine V_aload_n0 X dX11_init_147 ?_
  refine V_iconstE X (nI 0) dX11_init_148 (by decide +kernel) ?_
  refine V_putf X dX11_init_149 fX11_79 (by first | rfl | assumption) (Nat.le_of_ble_eq_true rfl) rfl rfl ?_
  refine V_aload_n0 X dX11_init_152 ?_
  refine V_iconstE X (nI 0) dX11_init_153 (by decide +kernel) ?_
  refine V_putf X dX11_init_154 fX11_82 (by first | rfl | assumption) (Nat.le_of_ble_eq_true rfl) rfl rfl ?_
  exact V_vretG X dX11_init_157 (Nat.le_of_ble_eq_true rfl) (Nat.le_of_ble_eq_true rfl) ⟨(((((((((((((((((ag20.trans ag21 (Nat.le_of_ble_eq_true rfl)).trans ag22 (Nat.le_of_ble_eq_true rfl)).trans ag23 (Nat.le_of_ble_eq_true rfl)).trans ag24 (Nat.le_of_ble_eq_true rfl)).trans ag25 (Nat.le_of_ble_eq_true rfl)).trans ag26 (Nat.le_of_ble_eq_true rfl)).trans ag27 (Nat.le_of_ble_eq_true rfl)).trans ag28 (Nat.le_of_ble_eq_true rfl)).trans ag29 (Nat.le_of_ble_eq_true rfl)).trans ag30 (Nat.le_of_ble_eq_true rfl)).trans ag31 (Nat.le_of_ble_eq_true rfl)).trans ag32 (Nat.le_of_ble_eq_true rfl)).trans ag33 (Nat.le_of_ble_eq_true rfl)).trans ag34 (Nat.le_of_ble_eq_true rfl)).trans ag35 (Nat.le_of_ble_eq_true rfl)).trans ag36 (Nat.le_of_ble_eq_true rfl)).trans ag37 (Nat.le_of_ble_eq_true rfl)), (hq37.trans (hq36.trans (hq35.trans (hq34.trans (hq33.trans (hq32.trans (hq31.trans (hq30.trans (hq29.trans (hq28.trans (hq27.trans (hq26.trans (hq25.trans (hq24.trans (hq23.trans (hq22.trans (hq21.trans hq20))))))))))))))))), rfl, rfl⟩
abbrev wM0 : List CE := [oB 11 [.ref 1, .ref 4, .ref 9, .ref 13, .ref 17, .ref 21, .ref 23, .ref 25, .ref 27, .int (nI 0), .int (nI 0), .int (nI 0), .int (nI 0), .int (nI 0), .int (nI 0)], oB 6 [.ref 2, .int (nI 0)], rA [some 3, some 3, some 3, some 3], oB 4 [], oB 1 [.ref 1, .ref 5, .ref 6, .ref 7, .ref 8, .int (nI 0)], iA 30 (fun _ => nI 0), iA 40 (fun _ => nI 0), iA 37 (fun _ => nI 0), iA 4 (fun _ => nI 0), oB 2 [.ref 10, .ref 11, .ref 12], iA 10 (fun _ => nI 0), iA 37 (fun _ => nI 0), iA 37 (fun _ => nI 0), oB 9 [.ref 1, .ref 4, .ref 14, .int (nI 0), .ref 15, .ref 16, .int (nI 0), .int (-1), .int (-1)], iA 10000 (fun _ => nI 0), iA 10000 (fun _ => nI 0), iA 10000 (fun _ => nI 0), oB 10 [.ref 1, .ref 18, .ref 19, .ref 20, .int (nI 0), .int (nI 0)], iA 36 (fun _ => nI 0), iA 6 (fun _ => nI 0), iA 6 (fun _ => nI 0), oB 7 [.ref 22, .int (nI 0)], iA 10 (fun _ => nI 0), oB 7 [.ref 24, .int (nI 0)], iA 60 (fun _ => nI 0), oB 7 [.ref 26, .int (nI 0)], iA 6 (fun _ => nI 0), oB 7 [.ref 28, .int (nI 0)], iA 6 (fun _ => nI 0), oB 12 [.int (nI 0), .null, .null, .int (nI 0), .null, .null, .null, .int (nI 0), .int (nI 0), .int (nI 0), .null, .int (nI 0), .null, .null, .null, .int (nI 0), .int (nI 0), .int (nI 0), .int (nI 0), .null, .null, .null, .null, .int (nI 0), .int (nI 0), .int (nI 0), .null, .null, .null, .null, .long (lN 0)]]
abbrev wM : List CE := [oB 11 [.ref 1, .ref 4, .ref 9, .ref 13, .ref 17, .ref 21, .ref 23, .ref 25, .ref 27, .int (nI 0), .int (nI 0), .int (nI 0), .int (nI 0), .int (nI 0), .int (nI 0)], oB 6 [.ref 2, .int (nI 0)], rA [some 3, some 3, some 3, some 3], oB 4 [], oB 1 [.ref 1, .ref 5, .ref 6, .ref 7, .ref 8, .int (nI 0)], iA 30 (fun _ => nI 0), iA 40 (fun _ => nI 0), iA 37 (fun _ => nI 0), iA 4 (fun _ => nI 0), oB 2 [.ref 10, .ref 11, .ref 12], iA 10 (fun _ => nI 0), iA 37 (fun _ => nI 0), iA 37 (fun _ => nI 0), oB 9 [.ref 1, .ref 4, .ref 14, .int (nI 0), .ref 15, .ref 16, .int (nI 0), .int (-1), .int (-1)], iA 10000 (fun _ => nI 0), iA 10000 (fun _ => nI 0), iA 10000 (fun _ => nI 0), oB 10 [.ref 1, .ref 18, .ref 19, .ref 20, .int (nI 0), .int (nI 0)], iA 36 (fun _ => nI 0), iA 6 (fun _ => nI 0), iA 6 (fun _ => nI 0), oB 7 [.ref 22, .int (nI 0)], iA 10 (fun _ => nI 0), oB 7 [.ref 24, .int (nI 0)], iA 60 (fun _ => nI 0), oB 7 [.ref 26, .int (nI 0)], iA 6 (fun _ => nI 0), oB 7 [.ref 28, .int (nI 0)], iA 6 (fun _ => nI 0), oB 12 [.int (nI 0), .ref 30, .ref 31, .int (nI 0), .ref 32, .ref 33, .ref 34, .int (nI 0), .int (nI 0), .int (nI 0), .ref 35, .int (nI 0), .ref 36, .ref 37, .ref 38, .int (nI 0), .int (nI 0), .int (nI 0), .int (nI 0), .ref 39, .ref 40, .ref 41, .ref 42, .int (-1), .int (nI 0), .int (nI 0), .ref 43, .ref 44, .ref 45, .ref 46, .long (lN 0)], iA 4 (fun _ => nI 0), iA 4 (fun _ => nI 0), iA 60 (fun _ => nI 0), iA 4 (fun _ => nI 0), iA 10 (fun _ => nI 0), iA 6 (fun _ => nI 0), iA 30 (fun _ => nI 0), iA 10000 (fun _ => nI 0), iA 10000 (fun _ => nI 0), iA 6 (fun _ => nI 0), iA 6 (fun _ => nI 0), iA 6 (fun _ => nI 0), iA 6 (fun _ => nI 0), iA 4 (fun _ => nI 0), iA 60 (fun _ => nI 0), iA 6 (fun _ => nI 0), iA 6 (fun _ => nI 0)]
theorem C_model (l : Launch) (G : GX) (ad : Nat → Nat)  : Ct l G yX12_init cX12_init 1 none 4 17 20218 ad wM0 [.ref 29] (pN 30 ad wM) := by
  refine Ct.of [some (.ref 29)] (by decide +kernel) (Nat.le_of_ble_eq_true rfl) rfl ?_
  intro p e s m args below meth c A X
  refine V_aload_n0 X dX12_init_0 ?_
  refine V_obj X dX12_init_1 w_796 (Nat.le_of_ble_eq_true rfl) ⟨(Nat.le_of_ble_eq_true rfl), (Nat.le_of_ble_eq_true rfl)⟩ ?_
  refine V_aload_n0 X dX12_init_4 ?_
  refine V_iconstE X (nI 4) dX12_init_5 (by decide +kernel) ?_
  refine V_newa X 30 4 dX12_init_6 rfl (Nat.le_of_ble_eq_true rfl) rfl rfl rfl rfl (Nat.le_of_ble_eq_true rfl) (Nat.le_of_ble_eq_true rfl) (fun a38 ag38 hq38 => ?_)
  have hq38 := hq38.resolve_right (by decide)
  refine V_putF X dX12_init_8 fX12_7 rfl (by first | rfl | assumption) ⟨_, _, rfl⟩ (Nat.le_of_ble_eq_true rfl) rfl rfl ?_
  refine V_aload_n0 X dX12_init_11 ?_
  refine V_iconstE X (nI 4) dX12_init_12 (by decide +kernel) ?_
  refine V_newa X 31 4 dX12_init_13 rfl (Nat.le_of_ble_eq_true rfl) rfl rfl rfl rfl (Nat.le_of_ble_eq_true rfl) (Nat.le_of_ble_eq_true rfl) (fun a39 ag39 hq39 => ?_)
  have hq39 := hq39.resolve_right (by decide)
  refine V_putF X dX12_init_15 fX12_13 rfl (by first | rfl | assumption) ⟨_, _, rfl⟩ (Nat.le_of_ble_eq_true rfl) rfl rfl ?_
  refine V_aload_n0 X dX12_init_18 ?_
  refine V_bipushE X (nI 60) dX12_init_19 (by decide +kernel) ?_
  refine V_newa X 32 60 dX12_init_21 rfl (Nat.le_of_ble_eq_true rfl) rfl rfl rfl rfl (Nat.le_of_ble_eq_true rfl) (Nat.le_of_ble_eq_true rfl) (fun a40 ag40 hq40 => ?_)
  have hq40 := hq40.resolve_right (by decide)
  refine V_putF X dX12_init_23 fX12_16 rfl (by first | rfl | assumption) ⟨_, _, rfl⟩ (Nat.le_of_ble_eq_true rfl) rfl rfl ?_
  refine V_aload_n0 X dX12_init_26 ?_
  refine V_iconstE X (nI 4) dX12_init_27 (by decide +kernel) ?_
  refine V_newa X 33 4 dX12_init_28 rfl (Nat.le_of_ble_eq_true rfl) rfl rfl rfl rfl (Nat.le_of_ble_eq_true rfl) (Nat.le_of_ble_eq_true rfl) (fun a41 ag41 hq41 => ?_)
  have hq41 := hq41.resolve_right (by decide)
  refine V_putF X dX12_init_30 fX12_19 rfl (by first | rfl | assumption) ⟨_, _, rfl⟩ (Nat.le_of_ble_eq_true rfl) rfl rfl ?_
  refine V_aload_n0 X dX12_init_33 ?_
  refine V_bipushE X (nI 10) dX12_init_34 (by decide +kernel) ?_
  refine V_newa X 34 10 dX12_init_36 rfl (Nat.le_of_ble_eq_true rfl) rfl rfl rfl rfl (Nat.le_of_ble_eq_true rfl) (Nat.le_of_ble_eq_true rfl) (fun a42 ag42 hq42 => ?_)
  have hq42 := hq42.resolve_right (by decide)
  refine V_putF X dX12_init_38 fX12_22 rfl (by first | rfl | assumption) ⟨_, _, rfl⟩ (Nat.le_of_ble_eq_true rfl) rfl rfl ?_
  refine V_aload_n0 X dX12_init_41 ?_
  refine V_bipushE X (nI 6) dX12_init_42 (by decide +kernel) ?_
  refine V_newa X 35 6 dX12_init_44 rfl (Nat.le_of_ble_eq_true rfl) rfl rfl rfl rfl (Nat.le_of_ble_eq_true rfl) (Nat.le_of_ble_eq_true rfl) (fun a43 ag43 hq43 => ?_)
  have hq43 := hq43.resolve_right (by decide)
  refine V_putF X dX12_init_46 fX12_25 rfl (by first | rfl | assumption) ⟨_, _, rfl⟩ (Nat.le_of_ble_eq_true rfl) rfl rfl ?_
  refine V_aload_n0 X dX12_init_49 ?_
  refine V_bipushE X (nI 30) dX12_init_50 (by decide +kernel) ?_
  refine V_newa X 36 30 dX12_init_52 rfl (Nat.le_of_ble_eq_true rfl) rfl rfl rfl rfl (Nat.le_of_ble_eq_true rfl) (Nat.le_of_ble_eq_true rfl) (fun a44 ag44 hq44 => ?_)
  have hq44 := hq44.resolve_right (by decide)
  refine V_putF X dX12_init_54 fX12_28 rfl (by first | rfl | assumption) ⟨_, _, rfl⟩ (Nat.le_of_ble_eq_true rfl) rfl rfl ?_
  refine V_aload_n0 X dX12_init_57 ?_
  refine V_sipushE X (nI 10000) dX12_init_58 (by decide +kernel) ?_
  refine V_newa X 37 10000 dX12_init_61 rfl (Nat.le_of_ble_eq_true rfl) rfl rfl rfl rfl (Nat.le_of_ble_eq_true rfl) (Nat.le_of_ble_eq_true rfl) (fun a45 ag45 hq45 => ?_)
  have hq45 := hq45.resolve_right (by decide)
  refine V_putF X dX12_init_63 fX12_31 rfl (by first | rfl | assumption) ⟨_, _, rfl⟩ (Nat.le_of_ble_eq_true rfl) rfl rfl ?_
  refine V_aload_n0 X dX12_init_66 ?_
  refine V_sipushE X (nI 10000) dX12_init_67 (by decide +kernel) ?_
  refine V_newa X 38 10000 dX12_init_70 rfl (Nat.le_of_ble_eq_true rfl) rfl rfl rfl rfl (Nat.le_of_ble_eq_true rfl) (Nat.le_of_ble_eq_true rfl) (fun a46 ag46 hq46 => ?_)
  have hq46 := hq46.resolve_right (by decide)
  refine V_putF X dX12_init_72 fX12_34 rfl (by first | rfl | assumption) ⟨_, _, rfl⟩ (Nat.le_of_ble_eq_true rfl) rfl rfl ?_
  refine V_aload_n0 X dX12_init_75 ?_
  refine V_bipushE X (nI 6) dX12_init_76 (by decide +kernel) ?_
  refine V_newa X 39 6 dX12_init_78 rfl (Nat.le_of_ble_eq_true rfl) rfl rfl rfl rfl (Nat.le_of_ble_eq_true rfl) (Nat.le_of_ble_eq_true rfl) (fun a47 ag47 hq47 => ?_)
  have hq47 := hq47.resolve_right (by decide)
  refine V_putF X dX12_init_80 fX12_37 rfl (by first | rfl | assumption) ⟨_, _, rfl⟩ (Nat.le_of_ble_eq_true rfl) rfl rfl ?_
  refine V_aload_n0 X dX12_init_83 ?_
  refine V_bipushE X (nI 6) dX12_init_84 (by decide +kernel) ?_
  refine V_newa X 40 6 dX12_init_86 rfl (Nat.le_of_ble_eq_true rfl) rfl rfl rfl rfl (Nat.le_of_ble_eq_true rfl) (Nat.le_of_ble_eq_true rfl) (fun a48 ag48 hq48 => ?_)
  have hq48 := hq48.resolve_right (by decide)
  refine V_putF X dX12_init_88 fX12_40 rfl (by first | rfl | assumption) ⟨_, _, rfl⟩ (Nat.le_of_ble_eq_true rfl) rfl rfl ?_
  refine V_aload_n0 X dX12_init_91 ?_
  refine V_bipushE X (nI 6) dX12_init_92 (by decide +kernel) ?_
  refine V_newa X 41 6 dX12_init_94 rfl (Nat.le_of_ble_eq_true rfl) rfl rfl rfl rfl (Nat.le_of_ble_eq_true rfl) (Nat.le_of_ble_eq_true rfl) (fun a49 ag49 hq49 => ?_)
  have hq49 := hq49.resolve_right (by decide)
  refine V_putF X dX12_init_96 fX12_43 rfl (by first | rfl | assumption) ⟨_, _, rfl⟩ (Nat.le_of_ble_eq_true rfl) rfl rfl ?_
  refine V_aload_n0 X dX12_init_99 ?_
  refine V_bipushE X (nI 6) dX12_init_100 (by decide +kernel) ?_
  refine V_newa X 42 6 dX12_init_102 rfl (Nat.le_of_ble_eq_true rfl) rfl rfl rfl rfl (Nat.le_of_ble_eq_true rfl) (Nat.le_of_ble_eq_true rfl) (fun a50 ag50 hq50 => ?_)
  have hq50 := hq50.resolve_right (by decide)
  refine V_putF X dX12_init_104 fX12_46 rfl (by first | rfl | assumption) ⟨_, _, rfl⟩ (Nat.le_of_ble_eq_true rfl) rfl rfl ?_
  refine V_aload_n0 X dX12_init_107 ?_
  refine V_iconstE X (nI 4) dX12_init_108 (by decide +kernel) ?_
  refine V_newa X 43 4 dX12_init_109 rfl (Nat.le_of_ble_eq_true rfl) rfl rfl rfl rfl (Nat.le_of_ble_eq_true rfl) (Nat.le_of_ble_eq_true rfl) (fun a51 ag51 hq51 => ?_)
  have hq51 := hq51.resolve_right (by decide)
  refine V_putF X dX12_init_111 fX12_49 rfl (by first | rfl | assumption) ⟨_, _, rfl⟩ (Nat.le_of_ble_eq_true rfl) rfl rfl ?_
  refine V_aload_n0 X dX12_init_114 ?_
  refine V_bipushE X (nI 60) dX12_init_115 (by decide +kernel) ?_
  refine V_newa X 44 60 dX12_init_117 rfl (Nat.le_of_ble_eq_true rfl) rfl rfl rfl rfl (Nat.le_of_ble_eq_true rfl) (Nat.le_of_ble_eq_true rfl) (fun a52 ag52 hq52 => ?_)
  have hq52 := hq52.resolve_right (by decide)
  refine V_putF X dX12_init_119 fX12_52 rfl (by first | rfl | assumption) ⟨_, _, rfl⟩ (Nat.le_of_ble_eq_true rfl) rfl rfl ?_
  refine V_aload_n0 X dX12_init_122 ?_
  refine V_bipushE X (nI 6) dX12_init_123 (by decide +kernel) ?_
  refine V_newa X 45 6 dX12_init_125 rfl (Nat.le_of_ble_eq_true rfl) rfl rfl rfl rfl (Nat.le_of_ble_eq_true rfl) (Nat.le_of_ble_eq_true rfl) (fun a53 ag53 hq53 => ?_)
  have hq53 := hq53.resolve_right (by decide)
  refine V_putF X dX12_init_127 fX12_55 rfl (by first | rfl | assumption) ⟨_, _, rfl⟩ (Nat.le_of_ble_eq_true rfl) rfl rfl ?_
  refine V_aload_n0 X dX12_init_130 ?_
  refine V_bipushE X (nI 6) dX12_init_131 (by decide +kernel) ?_
  refine V_newa X 46 6 dX12_init_133 rfl (Nat.le_of_ble_eq_true rfl) rfl rfl rfl rfl (Nat.le_of_ble_eq_true rfl) (Nat.le_of_ble_eq_true rfl) (fun a54 ag54 hq54 => ?_)
  have hq54 := hq54.resolve_right (by decide)
  refine V_putF X dX12_init_135 fX12_58 rfl (by first | rfl | assumption) ⟨_, _, rfl⟩ (Nat.le_of_ble_eq_true rfl) rfl rfl ?_
  refine V_aload_n0 X dX12_init_138 ?_
  refine V_iconstE X (-1) dX12_init_139 (by decide +kernel) ?_
  refine V_putf X dX12_init_140 fX12_61 (by first | rfl | assumption) (Nat.le_of_ble_eq_true rfl) rfl rfl ?_
  exact V_vretG X dX12_init_143 (Nat.le_of_ble_eq_true rfl) (Nat.le_of_ble_eq_true rfl) ⟨((((((((((((((((ag38.trans ag39 (Nat.le_of_ble_eq_true rfl)).trans ag40 (Nat.le_of_ble_eq_true rfl)).trans ag41 (Nat.le_of_ble_eq_true rfl)).trans ag42 (Nat.le_of_ble_eq_true rfl)).trans ag43 (Nat.le_of_ble_eq_true rfl)).trans ag44 (Nat.le_of_ble_eq_true rfl)).trans ag45 (Nat.le_of_ble_eq_true rfl)).trans ag46 (Nat.le_of_ble_eq_true rfl)).trans ag47 (Nat.le_of_ble_eq_true rfl)).trans ag48 (Nat.le_of_ble_eq_true rfl)).trans ag49 (Nat.le_of_ble_eq_true rfl)).trans ag50 (Nat.le_of_ble_eq_true rfl)).trans ag51 (Nat.le_of_ble_eq_true rfl)).trans ag52 (Nat.le_of_ble_eq_true rfl)).trans ag53 (Nat.le_of_ble_eq_true rfl)).trans ag54 (Nat.le_of_ble_eq_true rfl)), (hq54.trans (hq53.trans (hq52.trans (hq51.trans (hq50.trans (hq49.trans (hq48.trans (hq47.trans (hq46.trans (hq45.trans (hq44.trans (hq43.trans (hq42.trans (hq41.trans (hq40.trans (hq39.trans hq38)))))))))))))))), rfl, rfl⟩
