/-! Search: the portraits that have been come to, each with its first act -/
def hasP (L : List (Nat × Nat)) (q : Nat) : Bool := L.any (fun e => e.2 == q)
theorem hasP_app (L : List (Nat × Nat)) (lb q x : Nat) : hasP (L ++ [(lb, q)]) x = (hasP L x || q == x) := by simp [hasP]
theorem hasP_mem {L : List (Nat × Nat)} {q : Nat} : hasP L q = true ↔ q ∈ L.map Prod.snd := by
  simp [hasP]
theorem nodup_len : ∀ (N : Nat) (l : List Nat), l.Nodup → (∀ x ∈ l, x < N) → l.length ≤ N
  | 0, l, _, h => by
    cases l with
    | nil => simp
    | cons a l => exact absurd (h a List.mem_cons_self) (by omega)
  | N + 1, l, hn, h => by
    have h1 := nodup_len N (l.erase N) (hn.erase N) (fun x hx => by
      have h2 := h x (List.mem_of_mem_erase hx)
      have h3 : x ≠ N := fun e => by
        rw [e] at hx
        exact (List.Nodup.not_mem_erase hn) hx
      omega)
    have h2 : l.length ≤ (l.erase N).length + 1 := by
      rw [List.length_erase]; split <;> omega
    omega
def goodL (L : List (Nat × Nat)) : Prop := (L.map Prod.snd).Nodup ∧ ∀ e ∈ L, e.1 ≤ 4 ∧ e.2 < 10000
theorem goodL_len {L : List (Nat × Nat)} (h : goodL L) : L.length ≤ 10000 := by
  have := nodup_len 10000 (L.map Prod.snd) h.1 (fun x hx => by
    obtain ⟨e, he, rfl⟩ := List.mem_map.mp hx
    exact (h.2 e he).2)
  rwa [List.length_map] at this
theorem goodL_add {L : List (Nat × Nat)} {lb q : Nat} (h : goodL L) (hq : hasP L q = false) (hl : lb ≤ 4) (h4 : q < 10000) : goodL (L ++ [(lb, q)]) := by
  refine ⟨?_, fun e he => ?_⟩
  · rw [List.map_append]
    refine List.nodup_append.mpr ⟨h.1, by simp, fun a ha b hb => ?_⟩
    simp at hb
    subst hb
    intro e
    subst e
    exact absurd (hasP_mem.mpr ha) (by rw [hq]; decide)
  · rcases List.mem_append.mp he with he | he
    · exact h.2 e he
    · simp at he; subst he; exact ⟨hl, h4⟩
theorem goodL_lt {L : List (Nat × Nat)} {q : Nat} (h : goodL L) (hq : hasP L q = false) (h4 : q < 10000) : L.length < 10000 := by
  have := goodL_len (goodL_add h hq (Nat.zero_le 4) h4)
  simp at this
  omega
abbrev SObj (kr ke rd len : Nat) (ty ft : Int32) : CE := oB 9 [.ref 1, .ref 4, .ref 14, .int (nI rd), .ref kr, .ref ke, .int (nI len), .int ty, .int ft]
def SR (ws : List CE) (kr ke rd : Nat) (L : List (Nat × Nat)) (ty ft : Int32) (fe : Nat → Int32) : Prop := ((kr = 15 ∧ ke = 16) ∨ (kr = 16 ∧ ke = 15)) ∧ rd < 1000000000 ∧ ws[13]? = some (SObj kr ke rd L.length ty ft) ∧ goodL L ∧ ∃ fs fw : Nat → Int32, ws[14]? = some (iA 10000 fs) ∧ ws[kr]? = some (iA 10000 fw) ∧ ws[ke]? = some (iA 10000 fe) ∧ (∀ p, p < 10000 → ∃ v, v ≤ rd ∧ fs p = nI v ∧ (v = rd ↔ hasP L p = true)) ∧ (∀ i e, L[i]? = some e → fw i = nI (e.1 * 10000 + e.2))
abbrev sea4 : List Nat := [13, 14, 15, 16]
theorem inS {kr ke : Nat} (h : (kr = 15 ∧ ke = 16) ∨ (kr = 16 ∧ ke = 15)) : kr ∈ sea4 ∧ ke ∈ sea4 := by
  rcases h with ⟨rfl, rfl⟩ | ⟨rfl, rfl⟩ <;> exact ⟨by decide, by decide⟩
theorem SR.fr {ks : List Nat} {ws ws2 : List CE} {kr ke rd : Nat} {L : List (Nat × Nat)} {ty ft : Int32} {fe : Nat → Int32} (h : SR ws kr ke rd L ty ft fe) (hf : fr ks ws ws2) (hk : ∀ k ∈ ks, k < 13 ∨ 16 < k) : SR ws2 kr ke rd L ty ft fe := by
  obtain ⟨h1, h2, h3, h4, fs, fw, h5, h6, h7, h8⟩ := h
  have nk : ∀ k, ¬ (k < 13 ∨ 16 < k) → k ∉ ks := fun k q q2 => q (hk k q2)
  exact ⟨h1, h2, hf.get (nk _ (by omega)) h3, h4, fs, fw, hf.get (nk _ (by omega)) h5, hf.get (nk _ (by omega)) h6, hf.get (nk _ (by omega)) h7, h8⟩
theorem t_startRound (l : Launch) (G : GX) (ad : Nat → Nat) (ws : List CE) (kr ke rd : Nat) (L : List (Nat × Nat)) (ty ft : Int32) (fe : Nat → Int32) (hS : SR ws kr ke rd L ty ft fe) (hrd : rd + 1 < 1000000000) : Ct l G yX9_startRound cX9_startRound 1 none 0 0 0 ad ws [.ref 13] (pV ad (fun ws2 => SR ws2 kr ke (rd + 1) [] ty ft fe ∧ fr sea4 ws ws2)) := by
  refine Ct.of [some (.ref 13)] (by decide +kernel) (Nat.le_of_ble_eq_true rfl) rfl ?_
  intro p e s m args below meth c A X
  obtain ⟨h1, h2, h3, h4, fs, fw, h5, h6, h7, h8, h9⟩ := hS
  refine V_aload_n0 X dX9_startRound_0 ?_
  refine V_dup X dX9_startRound_1 rfl ?_
  refine V_getf X dX9_startRound_2 fX9_15 (by assumption) (by rfl) ?_
  refine V_iconstE X (nI 1) dX9_startRound_5 (by decide +kernel) ?_
  refine V_iadd X dX9_startRound_6 ?_
  rw [nI_add]
  refine V_putf X dX9_startRound_7 fX9_15 (by assumption) (Nat.le_of_ble_eq_true rfl) rfl rfl ?_
  have d3 := gset (e2 := SObj kr ke (rd + 1) L.length ty ft) h3
  refine V_aload_n0 X dX9_startRound_10 ?_
  refine V_iconstE X (nI 0) dX9_startRound_11 (by decide +kernel) ?_
  refine V_putf X dX9_startRound_12 fX9_25 (by assumption) (Nat.le_of_ble_eq_true rfl) rfl rfl ?_
  refine V_vret X dX9_startRound_15 ⟨⟨h1, hrd, gset d3, ⟨by simp, fun e he => absurd he (by simp)⟩, fs, fw, gne (by omega) (gne (by omega) h5), gne (by omega) (gne (by omega) h6), gne (by omega) (gne (by omega) h7), ?_, fun i e he => absurd he (by simp)⟩, (fr.rfl.set (by decide)).set (by decide)⟩
  intro p0 hp
  obtain ⟨v, hv, e1, e2⟩ := h8 p0 hp
  exact ⟨v, by omega, e1, ⟨fun q => absurd q (by omega), fun q => by simp [hasP] at q⟩⟩
theorem t_reach (l : Launch) (G : GX) (ad : Nat → Nat) (ws : List CE) (kr ke rd : Nat) (L : List (Nat × Nat)) (ty ft : Int32) (fe : Nat → Int32) (hS : SR ws kr ke rd L ty ft fe) (q lb : Nat) (hq : q < 10000) (hlb : lb ≤ 4) (hno : hasP L q = false) : Ct l G yX9_reach cX9_reach 3 none 0 0 0 ad ws [.ref 13, .int (nI q), .int (nI lb)] (pV ad (fun ws2 => SR ws2 kr ke rd (L ++ [(lb, q)]) ty ft fe ∧ fr sea4 ws ws2)) := by
  refine Ct.of [some (.ref 13), some (.int (nI q)), some (.int (nI lb))] (by decide +kernel) (Nat.le_of_ble_eq_true rfl) rfl ?_
  intro p e s m args below meth c A X
  obtain ⟨h1, h2, h3, h4, fs, fw, h5, h6, h7, h8, h9⟩ := hS
  have hin := inS h1
  have hlen := goodL_lt h4 hno hq
  refine V_aload_n0 X dX9_reach_0 ?_
  refine V_getf X dX9_reach_1 fX9_25 (by assumption) (by rfl) ?_
  refine V_sipushE X (nI 10000) dX9_reach_4 (by decide +kernel) ?_
  refine V_icmp_ge X 57 dX9_reach_7 (by decide) (fun h => ?_) (fun h => ?_)
  · exact absurd h (nI_ge hlen (by decide))
  · refine V_iload_n1 X dX9_reach_10 ?_
    refine V_if_lt X 57 dX9_reach_11 (by decide) (fun h10 => ?_) (fun h10 => ?_)
    · exact absurd h10 (nI_pos (by omega))
    refine V_iload_n1 X dX9_reach_14 ?_
    refine V_sipushE X (nI 10000) dX9_reach_15 (by decide +kernel) ?_
    refine V_icmp_ge X 57 dX9_reach_18 (by decide) (fun h11 => ?_) (fun h11 => ?_)
    · exact absurd h11 (nI_ge hq (by decide))
    refine V_aload_n0 X dX9_reach_21 ?_
    refine V_getf X dX9_reach_22 fX9_9 (by assumption) (by rfl) ?_
    refine V_iload_n1 X dX9_reach_25 ?_
    refine V_aload_n0 X dX9_reach_26 ?_
    refine V_getf X dX9_reach_27 fX9_15 (by assumption) (by rfl) ?_
    refine V_iast X q dX9_reach_30 (by assumption) rfl hq (by omega) ?_
    have a3 := gne (k := 14) (e2 := iA 10000 (upd fs q (nI rd))) (by decide) h3
    have a5 := gset (e2 := iA 10000 (upd fs q (nI rd))) h5
    have a6 := gne (k := 14) (e2 := iA 10000 (upd fs q (nI rd))) (by omega) h6
    have a7 := gne (k := 14) (e2 := iA 10000 (upd fs q (nI rd))) (by omega) h7
    refine V_aload_n0 X dX9_reach_31 ?_
    refine V_getf X dX9_reach_32 fX9_19 (by assumption) (by rfl) ?_
    refine V_aload_n0 X dX9_reach_35 ?_
    refine V_getf X dX9_reach_36 fX9_25 (by assumption) (by rfl) ?_
    refine V_iload_n2 X dX9_reach_39 ?_
    refine V_sipushE X (nI 10000) dX9_reach_40 (by decide +kernel) ?_
    refine V_imul X dX9_reach_43 ?_
    refine V_iload_n1 X dX9_reach_44 ?_
    refine V_iadd X dX9_reach_45 ?_
    rw [pk_mul, nI_add]
    refine V_iast X L.length dX9_reach_46 (by assumption) rfl hlen (by omega) ?_
    have b3 := gne (k := kr) (e2 := iA 10000 (upd fw L.length (nI (lb * 10000 + q)))) (by omega) a3
    have b5 := gne (k := kr) (e2 := iA 10000 (upd fw L.length (nI (lb * 10000 + q)))) (by omega) a5
    have b6 := gset (e2 := iA 10000 (upd fw L.length (nI (lb * 10000 + q)))) a6
    have b7 := gne (k := kr) (e2 := iA 10000 (upd fw L.length (nI (lb * 10000 + q)))) (by omega) a7
    refine V_aload_n0 X dX9_reach_47 ?_
    refine V_dup X dX9_reach_48 rfl ?_
    refine V_getf X dX9_reach_49 fX9_25 (by assumption) (by rfl) ?_
    refine V_iconstE X (nI 1) dX9_reach_52 (by decide +kernel) ?_
    refine V_iadd X dX9_reach_53 ?_
    rw [nI_add]
    refine V_putf X dX9_reach_54 fX9_25 (by assumption) (Nat.le_of_ble_eq_true rfl) rfl rfl ?_
    refine V_vret X dX9_reach_57 ⟨⟨h1, h2, by rw [List.length_append]; exact gset b3, goodL_add h4 hno hlb hq, _, _, gne (by omega) b5, gne (by omega) b6, gne (by omega) b7, ?_, ?_⟩, ((fr.rfl.set (by decide)).set hin.1).set (by decide)⟩
    · intro p0 hp
      rw [hasP_app]
      by_cases e : p0 = q
      · subst e
        exact ⟨rd, Nat.le_refl _, pk_us, by simp⟩
      · obtain ⟨v, hv, e1, e2⟩ := h8 p0 hp
        refine ⟨v, hv, by rw [pk_un e]; exact e1, ?_⟩
        rw [e2]
        simp [Ne.symm e]
    · intro i e9 he
      by_cases e : i = L.length
      · subst e
        simp at he
        subst he
        exact pk_us
      · rw [pk_un e]
        apply h9 i e9
        rw [List.getElem?_append] at he
        split at he
        · exact he
        · next hi =>
          have : 0 < i - L.length := by omega
          rw [List.getElem?_eq_none (by simp; omega)] at he
          cases he
theorem bI_t : ¬ bI true = 0 := by decide +kernel
theorem bI_f : bI false = 0 := by decide +kernel
theorem b_of0 {b : Bool} (h : bI b = 0) : b = false := by
  cases b with
  | false => rfl
  | true => exact absurd h bI_t
theorem b_of1 {b : Bool} (h : ¬ bI b = 0) : b = true := by
  cases b with
  | true => rfl
  | false => exact absurd bI_f h
theorem t_isReached (l : Launch) (G : GX) (ad : Nat → Nat) (ws : List CE) (kr ke rd : Nat) (L : List (Nat × Nat)) (ty ft : Int32) (fe : Nat → Int32) (hS : SR ws kr ke rd L ty ft fe) (q : Nat) (hq : q < 10000) : Ct l G yX9_isReached cX9_isReached 2 (some .boolean) 0 0 0 ad ws [.ref 13, .int (nI q)] (pI ad (fun r ws2 => r = bI (hasP L q) ∧ ws2 = ws)) := by
  refine Ct.of [some (.ref 13), some (.int (nI q))] (by decide +kernel) (Nat.le_of_ble_eq_true rfl) rfl ?_
  intro p e s m args below meth c A X
  obtain ⟨h1, h2, h3, h4, fs, fw, h5, h6, h7, h8, h9⟩ := hS
  obtain ⟨v, hv1, hv2, hv3⟩ := h8 q hq
  refine V_iload_n1 X dX9_isReached_0 ?_
  refine V_if_lt X 28 dX9_isReached_1 (by decide) (fun h => ?_) (fun h => ?_)
  · exact absurd h (nI_pos (by omega))
  refine V_iload_n1 X dX9_isReached_4 ?_
  refine V_sipushE X (nI 10000) dX9_isReached_5 (by decide +kernel) ?_
  refine V_icmp_ge X 28 dX9_isReached_8 (by decide) (fun h10 => ?_) (fun h10 => ?_)
  · exact absurd h10 (nI_ge hq (by decide))
  refine V_aload_n0 X dX9_isReached_11 ?_
  refine V_getf X dX9_isReached_12 fX9_9 (by assumption) (by rfl) ?_
  refine V_iload_n1 X dX9_isReached_15 ?_
  refine V_iald X q dX9_isReached_16 (by assumption) rfl hq (by omega) ?_
  rw [hv2]
  refine V_aload_n0 X dX9_isReached_17 ?_
  refine V_getf X dX9_isReached_18 fX9_15 (by assumption) (by rfl) ?_
  refine V_icmp_ne X 28 dX9_isReached_21 (by decide) (fun h11 => ?_) (fun h11 => ?_)
  · have e8 : hasP L q = false := by
      cases hb : hasP L q with
      | false => rfl
      | true => exact absurd (by rw [hv3.mpr hb]) h11
    refine V_iconstE X (nI 0) dX9_isReached_28 (by decide +kernel) ?_
    exact V_zret X dX9_isReached_29 rfl ⟨by rw [e8]; rfl, rfl⟩
  · have e8 : hasP L q = true := hv3.mp ((nI_eq (by omega) (by omega)).mp h11)
    refine V_iconstE X (nI 1) dX9_isReached_24 (by decide +kernel) ?_
    refine V_goto X 29 dX9_isReached_25 (by decide) ?_
    exact V_zret X dX9_isReached_29 rfl ⟨by rw [e8]; rfl, rfl⟩
/-! slips -/
def bndL (n : Nat) (L : List (Nat × Nat)) : Prop := ∀ e ∈ L, e.2 < 10 ^ n
def slipS (n : Nat) (K : Nat → Nat) (nj : Nat) (Js : Nat → JD) (kg p f : Nat) (up : Bool) (L : List (Nat × Nat)) : List (Nat × Nat) := match slipP K p f up with
  | none => L
  | some q => if !hasP L q && agreeP n K nj Js p q kg then L ++ [(0, q)] else L
def expS (n : Nat) (K : Nat → Nat) (nj : Nat) (Js : Nat → JD) (kg p : Nat) : Nat → List (Nat × Nat) → List (Nat × Nat)
  | 0, L => L
  | f + 1, L => slipS n K nj Js kg p f true (slipS n K nj Js kg p f false (expS n K nj Js kg p f L))
theorem slipP_lt {K : Nat → Nat} {p f q n : Nat} {up : Bool} (hp : p < 10 ^ n) (hf : f < n) (h : slipP K p f up = some q) : q < 10 ^ n := by
  unfold slipP at h
  cases hs : slipK (K f) (dg p f) up with
  | none => rw [hs] at h; cases h
  | some v =>
    rw [hs] at h
    cases h
    exact withP_lt hp hf (slipK_lt (dg_lt _ _) hs)
theorem bndL_slip {n : Nat} {K : Nat → Nat} {nj : Nat} {Js : Nat → JD} {kg p f : Nat} {up : Bool} {L : List (Nat × Nat)} (h : bndL n L) (hp : p < 10 ^ n) (hf : f < n) : bndL n (slipS n K nj Js kg p f up L) := by
  unfold slipS
  split
  · exact h
  · next q hq =>
    split
    · intro e he
      rcases List.mem_append.mp he with he | he
      · exact h e he
      · simp at he; subst he; exact slipP_lt hp hf hq
    · exact h
theorem bndL_exp {n : Nat} {K : Nat → Nat} {nj : Nat} {Js : Nat → JD} {kg p : Nat} {L : List (Nat × Nat)} (h : bndL n L) (hp : p < 10 ^ n) : ∀ f, f ≤ n → bndL n (expS n K nj Js kg p f L)
  | 0, _ => h
  | f + 1, hf => bndL_slip (bndL_slip (bndL_exp h hp f (by omega)) hp hf) hp hf
theorem nI_m1 {q : Nat} (h : q < 10000) : ¬ nI q = -1 := fun e => by
  have h1 := congrArg Int32.toInt e
  rw [nI_toInt (by omega)] at h1
  have h2 : (-1 : Int32).toInt = -1 := by decide +kernel
  rw [h2] at h1
  omega
set_option maxHeartbeats 1000000 in
theorem t_slipFrom (l : Launch) (G : GX) (ad : Nat → Nat) (ws : List CE) (n nj : Nat) (K : Nat → Nat) (Js : Nat → JD) (kr ke rd : Nat) (L : List (Nat × Nat)) (ty ft : Int32) (fe : Nat → Int32) (hL : LooksAt ws n K) (hM : MarksAt ws n nj Js) (hB : BitsAt ws n nj Js) (hS : SR ws kr ke rd L ty ft fe) (hkP : ad kP = G.2.2.2) (p0 kg : Nat) (hp : p0 < 10 ^ n) (hk : kg < 2147483648) : Ct l G yX9_slipFrom cX9_slipFrom 6 none 7 0 0 ad ws [.ref 13, .int (nI p0), .int (nI kg)] (pV ad (fun ws2 => SR ws2 kr ke rd (expS n K nj Js kg p0 n L) ty ft fe ∧ fr sea4 ws ws2)) := by
  refine Ct.of [some (.ref 13), some (.int (nI p0)), some (.int (nI kg)), none, none, none] (by decide +kernel) (Nat.le_of_ble_eq_true rfl) rfl ?_
  intro p e s m args below meth c A X
  have hn := hL.1
  have h104 := pow_le4 hn
  refine V_iconstE X (nI 0) dX9_slipFrom_0 (by decide +kernel) ?_
  refine V_istore_n3 X dX9_slipFrom_1 (Nat.le_of_ble_eq_true rfl) rfl ?_
  refine V_loop (fun k wk lv2 => ∃ (f : Nat) (w4 w5 : Option Value), f + k = n ∧ lv2 = [some (.ref 13), some (.int (nI p0)), some (.int (nI kg)), some (.int (nI f)), w4, w5] ∧ noL lv2 5 = true ∧ fr sea4 ws wk ∧ SR wk kr ke rd (expS n K nj Js kg p0 f L) ty ft fe) n ⟨0, none, none, by omega, rfl, by rfl, fr.rfl, hS⟩ ?_
  rintro k wk _ ⟨f, w4, w5, hf, rfl, hn5, hfr, hSk⟩ ih
  have hLk := hL.fr hfr (by decide)
  have q1 := hLk.2.1
  have q13 := hSk.2.2.1
  refine V_iload_n3 X dX9_slipFrom_2 ?_
  refine V_aload_n0 X dX9_slipFrom_3 ?_
  refine V_getf X dX9_slipFrom_4 fX9_34 (by assumption) (by rfl) ?_
  refine V_cV0I X dX9_slipFrom_7 kX9_56 (t_Lsize l G ad wk n K hLk) (by assumption) (by rfl) (Nat.le_of_ble_eq_true rfl) ⟨⟨Nat.le_of_ble_eq_true rfl, Nat.le_of_ble_eq_true rfl⟩, Nat.le_of_ble_eq_true rfl, Nat.le_of_ble_eq_true rfl⟩ (fun r ws2 hc => ?_)
  obtain ⟨rfl, hw9⟩ := hc
  obtain rfl := hw9.symm
  refine V_icmp_ge X 95 dX9_slipFrom_10 (by decide) (fun h => ?_) (fun h => ?_)
  · have e9 : f = n := by have := (nI_leI (by omega) (by omega)).mp h; omega
    subst e9
    exact V_vret X dX9_slipFrom_95 ⟨hSk, hfr⟩
  · have e9 : f < n := by rcases Nat.lt_or_ge f n with q | q; exact q; exact absurd ((nI_leI (by omega) (by omega)).mpr q) h
    have body : ∀ (up : Bool) (L1 : List (Nat × Nat)) (wz : List CE) (w5 : Option Value), SR wz kr ke rd L1 ty ft fe → fr sea4 ws wz → (∀ (wy : List CE) (w5 : Option Value), SR wy kr ke rd (slipS n K nj Js kg p0 f up L1) ty ft fe → fr sea4 ws wy → V p l e (rmm 7 0 0) s m args below meth c 0 0 (MQ below (QQ G A (pV ad (fun ws2 => SR ws2 kr ke rd (expS n K nj Js kg p0 n L) ty ft fe ∧ fr sea4 ws ws2))) args s 0 0 A) G A 6 ad wy 83 [some (.ref 13), some (.int (nI p0)), some (.int (nI kg)), some (.int (nI f)), some (.int (byI up)), w5] []) → V p l e (rmm 7 0 0) s m args below meth c 0 0 (MQ below (QQ G A (pV ad (fun ws2 => SR ws2 kr ke rd (expS n K nj Js kg p0 n L) ty ft fe ∧ fr sea4 ws ws2))) args s 0 0 A) G A 6 ad wz 22 [some (.ref 13), some (.int (nI p0)), some (.int (nI kg)), some (.int (nI f)), some (.int (byI up)), w5] [] := by
      intro up L1 wz w5 hS1 hf1 kk
      have hL1 := hL.fr hf1 (by decide)
      have hM1 := hM.fr hf1 (by decide) (by decide)
      have hB1 := hB.fr hf1 (by decide) (by decide) (by decide)
      have z1 := hL1.2.1
      have z4 := hM1.1
      have z13 := hS1.2.2.1
      obtain ⟨fs, fw, z14, z15, z16, hs8, hs9⟩ := hS1.2.2.2.2
      refine V_aload_n0 X dX9_slipFrom_22 ?_
      refine V_getf X dX9_slipFrom_23 fX9_34 (by assumption) (by rfl) ?_
      refine V_iload_n1 X dX9_slipFrom_26 ?_
      refine V_iload_n3 X dX9_slipFrom_27 ?_
      refine V_iload_4 X dX9_slipFrom_28 ?_
      refine V_cV3I X dX9_slipFrom_30 kX9_61 (t_slip l G ad wz n K hL1 hkP p0 f (by omega) e9 up) (by assumption) (by rfl) (Nat.le_of_ble_eq_true rfl) ⟨⟨Nat.le_of_ble_eq_true rfl, Nat.le_of_ble_eq_true rfl⟩, Nat.le_of_ble_eq_true rfl, Nat.le_of_ble_eq_true rfl⟩ (fun r ws2 hc => ?_)
      obtain ⟨rfl, hw9⟩ := hc
      obtain rfl := hw9.symm
      cases hsl : slipP K p0 f up with
      | none =>
        refine V_istore_5 X dX9_slipFrom_33 (Nat.le_of_ble_eq_true rfl) rfl ?_
        refine V_iload_5 X dX9_slipFrom_35 ?_
        refine V_if_lt X 83 dX9_slipFrom_37 (by decide) (fun h6 => ?_) (fun h6 => ?_)
        · exact kk _ _ (by unfold slipS; rw [hsl]; exact hS1) hf1
        · exact absurd (show optI none < 0 by decide +kernel) h6
      | some q =>
        have hq := slipP_lt hp e9 hsl
        refine V_istore_5 X dX9_slipFrom_33 (Nat.le_of_ble_eq_true rfl) rfl ?_
        refine V_iload_5 X dX9_slipFrom_35 ?_
        refine V_if_lt X 83 dX9_slipFrom_37 (by decide) (fun h6 => ?_) (fun h6 => ?_)
        · exact absurd h6 (nI_pos (n := q) (by omega))
        · obtain ⟨v, hv1, hv2, hv3⟩ := hs8 q (by omega)
          refine V_iload_5 X dX9_slipFrom_40 ?_
          refine V_sipushE X (nI 10000) dX9_slipFrom_42 (by decide +kernel) ?_
          refine V_icmp_ge X 83 dX9_slipFrom_45 (by decide) (fun h10 => ?_) (fun h10 => ?_)
          · exact absurd h10 (nI_ge (show q < 10000 by omega) (by decide))
          refine V_aload_n0 X dX9_slipFrom_48 ?_
          refine V_getf X dX9_slipFrom_49 fX9_9 (by assumption) (by rfl) ?_
          refine V_iload_5 X dX9_slipFrom_52 ?_
          refine V_iald X q dX9_slipFrom_54 (by assumption) rfl (by omega) (by omega) ?_
          rw [hv2]
          refine V_aload_n0 X dX9_slipFrom_55 ?_
          refine V_getf X dX9_slipFrom_56 fX9_15 (by assumption) (by rfl) ?_
          have hrd := hS1.2.1
          refine V_icmp_eq X 83 dX9_slipFrom_59 (by decide) (fun h7 => ?_) (fun h7 => ?_)
          · have e8 : hasP L1 q = true := hv3.mp ((nI_eq (by omega) (by omega)).mp h7)
            exact kk _ _ (by unfold slipS; rw [hsl]; simp only [e8, Bool.not_true, Bool.false_and, Bool.false_eq_true, if_false]; exact hS1) hf1
          · have e8 : hasP L1 q = false := by
              cases hb : hasP L1 q with
              | false => rfl
              | true => exact absurd (by rw [hv3.mpr hb]) h7
            refine V_aload_n0 X dX9_slipFrom_62 ?_
            refine V_getf X dX9_slipFrom_63 fX9_38 (by assumption) (by rfl) ?_
            refine V_iload_n1 X dX9_slipFrom_66 ?_
            refine V_iload_5 X dX9_slipFrom_67 ?_
            refine V_iload_n2 X dX9_slipFrom_69 ?_
            refine V_cV3I X dX9_slipFrom_70 kX9_65 (t_agrees l G ad wz n nj K Js hL1 hM1 hB1 p0 q kg (by omega) (by omega) hk) (by assumption) (by rfl) (Nat.le_of_ble_eq_true rfl) ⟨⟨Nat.le_of_ble_eq_true rfl, Nat.le_of_ble_eq_true rfl⟩, Nat.le_of_ble_eq_true rfl, Nat.le_of_ble_eq_true rfl⟩ (fun r ws2 hc => ?_)
            obtain ⟨rfl, hw9⟩ := hc
            obtain rfl := hw9.symm
            refine V_if_eq X 83 dX9_slipFrom_73 (by decide) (fun h8 => ?_) (fun h8 => ?_)
            · have e7 : agreeP n K nj Js p0 q kg = false := by
                cases hb : agreeP n K nj Js p0 q kg with
                | false => rfl
                | true => rw [hb] at h8; exact absurd h8 (by decide +kernel)
              exact kk _ _ (by unfold slipS; rw [hsl]; simp only [e7, Bool.and_false, Bool.false_eq_true, if_false]; exact hS1) hf1
            · have e7 : agreeP n K nj Js p0 q kg = true := by
                cases hb : agreeP n K nj Js p0 q kg with
                | true => rfl
                | false => rw [hb] at h8; exact absurd (show bI false = 0 by decide +kernel) h8
              refine V_aload_n0 X dX9_slipFrom_76 ?_
              refine V_iload_5 X dX9_slipFrom_77 ?_
              refine V_iconstE X (nI 0) dX9_slipFrom_79 (by decide +kernel) ?_
              refine V_cV2V X dX9_slipFrom_80 kX9_45 (t_reach l G ad wz kr ke rd L1 ty ft fe hS1 q 0 (by omega) (by omega) e8) (by assumption) (by rfl) (Nat.le_of_ble_eq_true rfl) ⟨⟨Nat.le_of_ble_eq_true rfl, Nat.le_of_ble_eq_true rfl⟩, Nat.le_of_ble_eq_true rfl, Nat.le_of_ble_eq_true rfl⟩ (fun ws2 hc => ?_)
              obtain ⟨hS2, hf2⟩ := hc
              exact kk _ _ (by unfold slipS; rw [hsl]; simp only [e7, e8, Bool.not_false, Bool.true_and, if_true]; exact hS2) (hf1.trans hf2)
    refine V_iconstE X (-1) dX9_slipFrom_13 (by decide +kernel) ?_
    refine V_istore_4 X dX9_slipFrom_14 (Nat.le_of_ble_eq_true rfl) rfl ?_
    refine V_iload_4 X dX9_slipFrom_16 ?_
    refine V_iconstE X (nI 1) dX9_slipFrom_18 (by decide +kernel) ?_
    refine V_icmp_gt X 89 dX9_slipFrom_19 (by decide) (fun h6 => ?_) (fun h6 => ?_)
    · exact absurd h6 (by decide +kernel)
    · refine body false _ wk w5 hSk hfr (fun wy w5 hS1 hf1 => ?_)
      refine V_iinc_4 X dX9_slipFrom_83 (Nat.le_of_ble_eq_true rfl) rfl (show byI false + Int32.ofInt 2 = byI true by decide +kernel) ?_
      refine V_goto X 16 dX9_slipFrom_86 (by decide) ?_
      refine V_iload_4 X dX9_slipFrom_16 ?_
      refine V_iconstE X (nI 1) dX9_slipFrom_18 (by decide +kernel) ?_
      refine V_icmp_gt X 89 dX9_slipFrom_19 (by decide) (fun h7 => ?_) (fun h7 => ?_)
      · exact absurd h7 (by decide +kernel)
      · refine body true _ wy w5 hS1 hf1 (fun wx w5 hS2 hf2 => ?_)
        refine V_iinc_4 X dX9_slipFrom_83 (Nat.le_of_ble_eq_true rfl) rfl (show byI true + Int32.ofInt 2 = nI 3 by decide +kernel) ?_
        refine V_goto X 16 dX9_slipFrom_86 (by decide) ?_
        refine V_iload_4 X dX9_slipFrom_16 ?_
        refine V_iconstE X (nI 1) dX9_slipFrom_18 (by decide +kernel) ?_
        refine V_icmp_gt X 89 dX9_slipFrom_19 (by decide) (fun h8 => ?_) (fun h8 => ?_)
        · refine V_iinc_3 X dX9_slipFrom_89 (Nat.le_of_ble_eq_true rfl) rfl (inc1 _) ?_
          refine V_goto X 2 dX9_slipFrom_92 (by decide) ?_
          exact ih (k - 1) _ _ (by omega) ⟨f + 1, _, _, by omega, rfl, by rfl, hf2, hS2⟩
        · exact absurd (by decide +kernel) h8
