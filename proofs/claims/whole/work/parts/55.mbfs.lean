/-! the reference: how few slips -/
def labI (L : List (Nat × Nat)) (q : Nat) : Int32 := match L.find? (fun e => e.2 == q) with
  | none => (-1)
  | some e => nI e.1
theorem find_has (L : List (Nat × Nat)) (q : Nat) : (L.find? (fun e => e.2 == q)).isSome = hasP L q := by
  rw [Bool.eq_iff_iff, List.find?_isSome]
  simp [hasP]
theorem labI_app {L : List (Nat × Nat)} {lb q : Nat} (h : hasP L q = false) (x : Nat) : labI (L ++ [(lb, q)]) x = if x = q then nI lb else labI L x := by
  unfold labI
  rw [List.find?_append]
  have hh := find_has L x
  by_cases e : x = q
  · subst e
    rw [h] at hh
    cases hf : L.find? (fun e => e.2 == x) with
    | none => simp
    | some y => rw [hf] at hh; cases hh
  · rw [if_neg e]
    have : [(lb, q)].find? (fun e => e.2 == x) = none := by simp [Ne.symm e]
    rw [this, Option.or_none]
theorem labI_no {L : List (Nat × Nat)} {q : Nat} (h : hasP L q = false) : labI L q = -1 := by
  have hh := find_has L q
  rw [h] at hh
  unfold labI
  cases hf : L.find? (fun e => e.2 == q) with
  | none => rfl
  | some y => rw [hf] at hh; cases hh
theorem labI_yes {L : List (Nat × Nat)} {q : Nat} (h : hasP L q = true) : ∃ e ∈ L, e.2 = q ∧ labI L q = nI e.1 := by
  have hh := find_has L q
  rw [h] at hh
  unfold labI
  cases hf : L.find? (fun e => e.2 == q) with
  | none => rw [hf] at hh; cases hh
  | some y => exact ⟨y, List.mem_of_find?_eq_some hf, by have := List.find?_some hf; simpa using this, rfl⟩
def goodB (n : Nat) (L : List (Nat × Nat)) : Prop := (L.map Prod.snd).Nodup ∧ ∀ e ∈ L, e.1 ≤ 20 ∧ e.2 < 10 ^ n
theorem goodB_len {n : Nat} {L : List (Nat × Nat)} (h : goodB n L) : L.length ≤ 10 ^ n := by
  have := nodup_len (10 ^ n) (L.map Prod.snd) h.1 (fun x hx => by
    obtain ⟨e, he, rfl⟩ := List.mem_map.mp hx
    exact (h.2 e he).2)
  rwa [List.length_map] at this
theorem goodB_add {n : Nat} {L : List (Nat × Nat)} {lb q : Nat} (h : goodB n L) (hq : hasP L q = false) (hl : lb ≤ 20) (h4 : q < 10 ^ n) : goodB n (L ++ [(lb, q)]) := by
  refine ⟨?_, fun e he => ?_⟩
  · rw [List.map_append]
    refine List.nodup_append.mpr ⟨h.1, by simp, fun a ha b hb => ?_⟩
    simp at hb
    subst hb
    intro e
    subst e
    exact absurd (hasP_mem.mpr ha) (by rw [hq]; decide)
  · rcases List.mem_append.mp he with he | he
    · exact h.2 e he
    · simp at he; subst he; exact ⟨hl, h4⟩
theorem goodB_lt {n : Nat} {L : List (Nat × Nat)} {q : Nat} (h : goodB n L) (hq : hasP L q = false) (h4 : q < 10 ^ n) : L.length < 10 ^ n := by
  have := goodB_len (goodB_add h hq (Nat.zero_le 20) h4)
  simp at this
  omega
theorem nd_snd : ∀ {L : List (Nat × Nat)}, (L.map Prod.snd).Nodup → ∀ {a b : Nat × Nat}, a ∈ L → b ∈ L → a.2 = b.2 → a = b
  | [], _, a, b, ha, _, _ => by cases ha
  | x :: L, hn, a, b, ha, hb, e => by
    rw [List.map_cons, List.nodup_cons] at hn
    rcases List.mem_cons.mp ha with h1 | h1
    · rcases List.mem_cons.mp hb with h2 | h2
      · rw [h1, h2]
      · exact absurd (by rw [← h1, e]; exact List.mem_map.mpr ⟨b, h2, rfl⟩) hn.1
    · rcases List.mem_cons.mp hb with h2 | h2
      · exact absurd (by rw [← h2, ← e]; exact List.mem_map.mpr ⟨a, h1, rfl⟩) hn.1
      · exact nd_snd hn.2 h1 h2 e
theorem labI_in {n : Nat} {L : List (Nat × Nat)} (h : goodB n L) {e : Nat × Nat} (he : e ∈ L) : labI L e.2 = nI e.1 := by
  obtain ⟨e2, h1, h2, h3⟩ := labI_yes (hasP_mem.mpr (List.mem_map.mpr ⟨e, he, rfl⟩))
  rw [h3, nd_snd h.1 h1 he h2]
theorem labI_m1 {n : Nat} {L : List (Nat × Nat)} (h : goodB n L) (q : Nat) : labI L q = -1 ↔ hasP L q = false := by
  constructor
  · intro e
    cases hh : hasP L q
    · rfl
    · obtain ⟨e2, h1, h2, h3⟩ := labI_yes hh
      rw [h3] at e
      exact absurd e (nI_m1 (by have := (h.2 e2 h1).1; omega))
  · exact labI_no
def slipB (n : Nat) (K : Nat → Nat) (nj : Nat) (Js : Nat → JD) (kg lb p f : Nat) (up : Bool) (L : List (Nat × Nat)) : List (Nat × Nat) := if !hasP L (slipQ K p f up) && agreeP n K nj Js p (slipQ K p f up) kg then L ++ [(lb, slipQ K p f up)] else L
def expB (n : Nat) (K : Nat → Nat) (nj : Nat) (Js : Nat → JD) (kg lb p : Nat) : Nat → List (Nat × Nat) → List (Nat × Nat)
  | 0, L => L
  | k + 1, L => slipB n K nj Js kg lb p (k / 2) (decide (k % 2 = 1)) (expB n K nj Js kg lb p k L)
def bfsB (n : Nat) (K : Nat → Nat) (nj : Nat) (Js : Nat → JD) (kg to : Nat) : Nat → Nat → List (Nat × Nat) → Int32
  | 0, _, _ => (-1)
  | fuel + 1, a, L => if hasP L to then labI L to else match L[a]? with
    | none => (-1)
    | some e => bfsB n K nj Js kg to fuel (a + 1) (if e.1 < 20 then expB n K nj Js kg (e.1 + 1) e.2 (2 * n) L else L)
theorem slipQ_lt {n : Nat} {K : Nat → Nat} {p f : Nat} {up : Bool} (hp : p < 10 ^ n) (hf : f < n) : slipQ K p f up < 10 ^ n := by
  unfold slipQ slipP
  cases hs : slipK (K f) (dg p f) up with
  | none => exact hp
  | some v => exact withP_lt hp hf (slipK_lt (dg_lt _ _) hs)
theorem goodB_slip {n : Nat} {K : Nat → Nat} {nj : Nat} {Js : Nat → JD} {kg lb p f : Nat} {up : Bool} {L : List (Nat × Nat)} (h : goodB n L) (hp : p < 10 ^ n) (hf : f < n) (hl : lb ≤ 20) : goodB n (slipB n K nj Js kg lb p f up L) := by
  unfold slipB
  split
  · rename_i q
    simp only [Bool.and_eq_true, Bool.not_eq_true'] at q
    exact goodB_add h q.1 hl (slipQ_lt hp hf)
  · exact h
theorem slipB_get {n : Nat} {K : Nat → Nat} {nj : Nat} {Js : Nat → JD} {kg lb p f : Nat} {up : Bool} {L : List (Nat × Nat)} {i : Nat} {e : Nat × Nat} (h : L[i]? = some e) : (slipB n K nj Js kg lb p f up L)[i]? = some e := by
  unfold slipB
  split
  · have hi : i < L.length := (List.getElem?_eq_some_iff.mp h).1
    rw [List.getElem?_append_left hi]; exact h
  · exact h
theorem expB_get {n : Nat} {K : Nat → Nat} {nj : Nat} {Js : Nat → JD} {kg lb p : Nat} {L : List (Nat × Nat)} {i : Nat} {e : Nat × Nat} (h : L[i]? = some e) : ∀ k, (expB n K nj Js kg lb p k L)[i]? = some e
  | 0 => h
  | k + 1 => slipB_get (expB_get h k)
theorem goodB_exp {n : Nat} {K : Nat → Nat} {nj : Nat} {Js : Nat → JD} {kg lb p : Nat} {L : List (Nat × Nat)} (h : goodB n L) (hp : p < 10 ^ n) (hl : lb ≤ 20) : ∀ k, k ≤ 2 * n → goodB n (expB n K nj Js kg lb p k L)
  | 0, _ => h
  | k + 1, hk => goodB_slip (goodB_exp h hp hl k (by omega)) hp (by omega) hl
def BI (ws : List CE) (L : List (Nat × Nat)) : Prop := ∃ fs fq : Nat → Int32, ws[37]? = some (iA 10000 fs) ∧ ws[38]? = some (iA 10000 fq) ∧ (∀ p, p < 10000 → fs p = labI L p) ∧ ∀ i e, L[i]? = some e → fq i = nI e.2
set_option maxHeartbeats 2000000 in
theorem m_slipsOf (l : Launch) (G : GX) (ad : Nat → Nat) (ws : List CE) {n mm np : Nat} {rm sa : Int32} {nj tr : Nat} {sd : Int32} {pn hn : Nat} {kl kp kh : Int32} {hs : Int64} (hO : ws[29]? = some (MO n mm np rm sa nj tr sd pn hn kl kp kh hs)) (K : Nat → Nat) (kg : Nat) (Js : Nat → JD) (hJ : MJ ws n K kg nj Js) (fs0 fq0 : Nat → Int32) (hs0 : ws[37]? = some (iA 10000 fs0)) (hq0 : ws[38]? = some (iA 10000 fq0)) (fro to : Nat) (hfro : fro < 10 ^ n) (hto : to < 10 ^ n) : Ct l G yX12_slipsOf cX12_slipsOf 8 (some .int) 8 0 0 ad ws [.ref 29, .int (nI fro), .int (nI to)] (pI ad (fun r ws2 => r = bfsB n K nj Js kg to 10001 0 [(0, fro)] ∧ (∃ fs1 fq1, ws2[37]? = some (iA 10000 fs1) ∧ ws2[38]? = some (iA 10000 fq1)) ∧ fr [37, 38] ws ws2)) := by
  refine Ct.of [some (.ref 29), some (.int (nI fro)), some (.int (nI to)), none, none, none, none, none] (by decide +kernel) (Nat.le_of_ble_eq_true rfl) rfl ?_
  intro p e s m args below meth c A X
  have h4 := hJ.1
  have h5 := hJ.2.1
  have h104 := pow_le4 h4
  refine V_iconstE X (nI 0) dX12_slipsOf_0 (by decide +kernel) ?_
  refine V_istore_n3 X dX12_slipsOf_1 (Nat.le_of_ble_eq_true rfl) rfl ?_
  refine V_loop (fun k wk lv2 => ∃ i fs, i + k = 10000 ∧ wk[37]? = some (iA 10000 fs) ∧ (∀ p, p < i → fs p = labI [(0, fro)] p) ∧ fr [37] ws wk ∧ lv2 = [some (.ref 29), some (.int (nI fro)), some (.int (nI to)), some (.int (nI i)), none, none, none, none]) 10000 ⟨0, fs0, by omega, hs0, fun p hp => by omega, fr.rfl, rfl⟩ ?_
  rintro k wk _ ⟨i, fs, hi, hs1, hs2, hfr, rfl⟩ ih
  have hO2 := hfr.get (by decide) hO
  refine V_iload_n3 X dX12_slipsOf_2 ?_
  refine V_sipushE X (nI 10000) dX12_slipsOf_3 (by decide +kernel) ?_
  refine V_icmp_ge X 31 dX12_slipsOf_6 (by decide) (fun h => ?_) (fun h => ?_)
  · have e9 : i = 10000 := by have := c_le h; omega
    subst e9
    clear ih
    have hq1 := hfr.get (by decide) hq0
    refine V_aload_n0 X dX12_slipsOf_31 ?_
    refine V_getf X dX12_slipsOf_32 fX12_34 (by assumption) (by rfl) ?_
    refine V_iconstE X (nI 0) dX12_slipsOf_35 (by decide +kernel) ?_
    refine V_iload_n1 X dX12_slipsOf_36 ?_
    refine V_iast X 0 dX12_slipsOf_37 (by assumption) rfl (by decide) (by omega) ?_
    refine V_iconstE X (nI 1) dX12_slipsOf_38 (by decide +kernel) ?_
    refine V_istore_n3 X dX12_slipsOf_39 (Nat.le_of_ble_eq_true rfl) rfl ?_
    refine V_iconstE X (nI 0) dX12_slipsOf_40 (by decide +kernel) ?_
    refine V_istore_4 X dX12_slipsOf_41 (Nat.le_of_ble_eq_true rfl) rfl ?_
    have hfr2 := (hfr.mono (ks2 := [37, 38]) (by decide)).set (k := 38) (e := iA 10000 (upd fq0 0 (nI fro))) (by decide)
    have hB0 : BI (wk.set 38 (iA 10000 (upd fq0 0 (nI fro)))) [(0, fro)] := ⟨fs, _, gne (by decide) hs1, gset hq1, hs2, fun i e he => by
      cases i with
      | zero => cases he; exact pk_us
      | succ i => cases he⟩
    have hg0 : goodB n [(0, fro)] := ⟨by simp, fun e he => by simp at he; subst he; exact ⟨Nat.zero_le _, hfro⟩⟩
    refine V_loop (fun k wk lv2 => ∃ (a : Nat) (L : List (Nat × Nat)) (w5 w6 w7 : Option Value), a + k = 10001 ∧ a ≤ L.length ∧ goodB n L ∧ BI wk L ∧ fr [37, 38] ws wk ∧ bfsB n K nj Js kg to k a L = bfsB n K nj Js kg to 10001 0 [(0, fro)] ∧ lv2 = [some (.ref 29), some (.int (nI fro)), some (.int (nI to)), some (.int (nI L.length)), some (.int (nI a)), w5, w6, w7]) 10001 ⟨0, _, none, none, none, by omega, by simp, hg0, hB0, hfr2, rfl, rfl⟩ ?_
    clear hs1 hs2 hfr hO2 hq1 hfr2 hB0 hg0
    rintro k wk _ ⟨a, L, w5, w6, w7, hak, haL, hgL, ⟨fs, fq, hs1, hq1, hs2, hq2⟩, hfr, hbf, rfl⟩ ih
    have hO2 := hfr.get (by decide) hO
    have hJ2 := hJ.fr hfr (by decide) (by decide) (by decide)
    have hLl := goodB_len hgL
    have hk1 : k = (k - 1) + 1 := by omega
    have stop : (hasP L to = true ∨ L[a]? = none) → V p l e (rmm 8 0 0) s m args below meth c 0 0 (MQ below (QQ G A (pI ad (fun r ws2 => r = bfsB n K nj Js kg to 10001 0 [(0, fro)] ∧ (∃ fs1 fq1, ws2[37]? = some (iA 10000 fs1) ∧ ws2[38]? = some (iA 10000 fq1)) ∧ fr [37, 38] ws ws2))) args s 0 0 A) G A 8 ad wk 171 [some (.ref 29), some (.int (nI fro)), some (.int (nI to)), some (.int (nI L.length)), some (.int (nI a)), w5, w6, w7] [] := by
      intro hz
      refine V_aload_n0 X dX12_slipsOf_171 ?_
      refine V_getf X dX12_slipsOf_172 fX12_31 (by assumption) (by rfl) ?_
      refine V_iload_n2 X dX12_slipsOf_175 ?_
      refine V_iald X to dX12_slipsOf_176 (by assumption) rfl (by omega) (by omega) ?_
      refine V_iret X dX12_slipsOf_177 ⟨?_, ⟨fs, fq, hs1, hq1⟩, hfr⟩
      rw [hs2 to (by omega), ← hbf, hk1, bfsB]
      rcases hz with hz | hz
      · rw [if_pos hz]
      · cases hh : hasP L to
        · rw [if_neg (by decide), hz]; exact labI_no hh
        · rw [if_pos rfl]
    refine V_iload_4 X dX12_slipsOf_43 ?_
    refine V_iload_n3 X dX12_slipsOf_45 ?_
    refine V_icmp_ge X 171 dX12_slipsOf_46 (by decide) (fun h => ?_) (fun h => ?_)
    · have e9 : L.length ≤ a := c_le h
      exact stop (Or.inr (List.getElem?_eq_none e9))
    · have e9 : a < L.length := c_nle h
      refine V_aload_n0 X dX12_slipsOf_49 ?_
      refine V_getf X dX12_slipsOf_50 fX12_31 (by assumption) (by rfl) ?_
      refine V_iload_n2 X dX12_slipsOf_53 ?_
      refine V_iald X to dX12_slipsOf_54 (by assumption) rfl (by omega) (by omega) ?_
      refine V_iconstE X (-1) dX12_slipsOf_55 (by decide +kernel) ?_
      rw [hs2 to (by omega)]
      refine V_icmp_ne X 171 dX12_slipsOf_56 (by decide) (fun h2 => ?_) (fun h2 => ?_)
      · have e8 : hasP L to = true := by
          cases hh : hasP L to
          · exact absurd (labI_no hh) h2
          · rfl
        exact stop (Or.inl e8)
      · have e8 := (labI_m1 hgL to).mp h2
        obtain ⟨en, he⟩ : ∃ en, L[a]? = some en := ⟨_, List.getElem?_eq_getElem e9⟩
        have hem := List.mem_of_getElem? he
        obtain ⟨hd20, hep⟩ := hgL.2 en hem
        rw [hk1, bfsB, if_neg (by rw [e8]; decide), he] at hbf
        refine V_aload_n0 X dX12_slipsOf_59 ?_
        refine V_getf X dX12_slipsOf_60 fX12_34 (by assumption) (by rfl) ?_
        refine V_iload_4 X dX12_slipsOf_63 ?_
        refine V_iald X a dX12_slipsOf_65 (by assumption) rfl (by omega) (by omega) ?_
        rw [hq2 a en he]
        have next : ∀ (L2 : List (Nat × Nat)) (wz : List CE) (w6 w7 : Option Value), L2 = (if en.1 < 20 then expB n K nj Js kg (en.1 + 1) en.2 (2 * n) L else L) → L.length ≤ L2.length → goodB n L2 → BI wz L2 → fr [37, 38] ws wz → V p l e (rmm 8 0 0) s m args below meth c 0 0 (MQ below (QQ G A (pI ad (fun r ws2 => r = bfsB n K nj Js kg to 10001 0 [(0, fro)] ∧ (∃ fs1 fq1, ws2[37]? = some (iA 10000 fs1) ∧ ws2[38]? = some (iA 10000 fq1)) ∧ fr [37, 38] ws ws2))) args s 0 0 A) G A 8 ad wz 165 [some (.ref 29), some (.int (nI fro)), some (.int (nI to)), some (.int (nI L2.length)), some (.int (nI a)), some (.int (nI en.2)), w6, w7] [] := by
          intro L2 wz w6 w7 hL2 hll hg2 hB2 hf2
          refine V_iinc_4 X dX12_slipsOf_165 (Nat.le_of_ble_eq_true rfl) rfl (inc1 _) ?_
          refine V_goto X 43 dX12_slipsOf_168 (by decide) ?_
          exact ih (k - 1) _ _ (by omega) ⟨a + 1, L2, _, w6, w7, by omega, by omega, hg2, hB2, hf2, by rw [hL2]; exact hbf, rfl⟩
        clear ih stop
        refine V_istore_5 X dX12_slipsOf_66 (Nat.le_of_ble_eq_true rfl) rfl ?_
        refine V_iconstE X (nI 0) dX12_slipsOf_68 (by decide +kernel) ?_
        refine V_istore_6 X dX12_slipsOf_69 (Nat.le_of_ble_eq_true rfl) rfl ?_
        refine V_loop (fun j wz lv2 => ∃ (i : Nat) (L2 : List (Nat × Nat)) (w7 : Option Value), i + j = 2 * n ∧ L2 = expB n K nj Js kg (en.1 + 1) en.2 i L ∧ (0 < i → en.1 < 20) ∧ BI wz L2 ∧ fr [37, 38] ws wz ∧ lv2 = [some (.ref 29), some (.int (nI fro)), some (.int (nI to)), some (.int (nI L2.length)), some (.int (nI a)), some (.int (nI en.2)), some (.int (nI i)), w7]) (2 * n) ⟨0, L, w7, by omega, rfl, fun q => absurd q (by decide), ⟨fs, fq, hs1, hq1, hs2, hq2⟩, hfr, rfl⟩ ?_
        clear hs1 hq1 hs2 hq2 hfr hO2 hJ2
        rintro j wz _ ⟨i, L2, w7, hij, hL2, hi0, ⟨fs, fq, hs1, hq1, hs2, hq2⟩, hfr, rfl⟩ ih
        have hO2 := hfr.get (by decide) hO
        have hJ2 := hJ.fr hfr (by decide) (by decide) (by decide)
        have hge : L2[a]? = some en := by rw [hL2]; exact expB_get he i
        have hg2 : goodB n L2 := by
          rcases Nat.eq_zero_or_pos i with q | q
          · rw [hL2, q]; exact hgL
          · rw [hL2]; exact goodB_exp hgL hep (by have := hi0 q; omega) i (by omega)
        have hlL2 := goodB_len hg2
        have hll : L.length ≤ L2.length := by
          rw [hL2]
          rcases Nat.lt_or_ge (expB n K nj Js kg (en.1 + 1) en.2 i L).length L.length with q | q
          · obtain ⟨y, hy⟩ : ∃ y, L[L.length - 1]? = some y := ⟨_, List.getElem?_eq_getElem (by omega)⟩
            have := (List.getElem?_eq_some_iff.mp (expB_get (n := n) (K := K) (nj := nj) (Js := Js) (kg := kg) (lb := en.1 + 1) (p := en.2) hy i)).1
            omega
          · exact q
        refine V_iload_6 X dX12_slipsOf_71 ?_
        refine V_iconstE X (nI 2) dX12_slipsOf_73 (by decide +kernel) ?_
        refine V_aload_n0 X dX12_slipsOf_74 ?_
        refine V_getf X dX12_slipsOf_75 fX12_65 (by assumption) (by rfl) ?_
        refine V_imul X dX12_slipsOf_78 ?_
        rw [pk_mul]
        refine V_icmp_ge X 165 dX12_slipsOf_79 (by decide) (fun h3 => ?_) (fun h3 => ?_)
        · have e7 : i = 2 * n := by have := c_le h3; omega
          refine next L2 wz _ w7 ?_ hll hg2 ⟨fs, fq, hs1, hq1, hs2, hq2⟩ hfr
          by_cases hd : en.1 < 20
          · rw [if_pos hd, hL2, e7]
          · rw [if_neg hd]
            have hz : i = 0 := by rcases Nat.eq_zero_or_pos i with q | q; exact q; exact absurd (hi0 q) hd
            rw [hL2, hz]; rfl
        · have e7 := c_nle h3
          refine V_aload_n0 X dX12_slipsOf_82 ?_
          refine V_getf X dX12_slipsOf_83 fX12_31 (by assumption) (by rfl) ?_
          refine V_iload_5 X dX12_slipsOf_86 ?_
          refine V_iald X en.2 dX12_slipsOf_88 (by assumption) rfl (by omega) (by omega) ?_
          refine V_bipushE X (nI 20) dX12_slipsOf_89 (by decide +kernel) ?_
          rw [hs2 en.2 (by omega), labI_in hg2 (List.mem_of_getElem? hge)]
          refine V_icmp_ge X 165 dX12_slipsOf_91 (by decide) (fun h6 => ?_) (fun h6 => ?_)
          · have e6 : 20 ≤ en.1 := c_le h6
            have hz : i = 0 := by rcases Nat.eq_zero_or_pos i with q | q; exact q; exact absurd (hi0 q) (by omega)
            refine next L2 wz _ w7 ?_ hll hg2 ⟨fs, fq, hs1, hq1, hs2, hq2⟩ hfr
            rw [if_neg (by omega), hL2, hz]; rfl
          · have e6 : en.1 < 20 := c_nle h6
            have hql := slipQ_lt (K := K) (up := decide (i % 2 = 1)) hep (show i / 2 < n by omega)
            have hnx : expB n K nj Js kg (en.1 + 1) en.2 (i + 1) L = slipB n K nj Js kg (en.1 + 1) en.2 (i / 2) (decide (i % 2 = 1)) L2 := by rw [expB, hL2]
            refine V_aload_n0 X dX12_slipsOf_94 ?_
            refine V_iload_5 X dX12_slipsOf_95 ?_
            refine V_iload_6 X dX12_slipsOf_97 ?_
            refine V_iconstE X (nI 2) dX12_slipsOf_99 (by decide +kernel) ?_
            refine V_idiv X dX12_slipsOf_100 (by decide +kernel) ?_
            refine V_iload_6 X dX12_slipsOf_101 ?_
            refine V_iconstE X (nI 2) dX12_slipsOf_103 (by decide +kernel) ?_
            refine V_irem X dX12_slipsOf_104 (by decide +kernel) ?_
            rw [show nI i - nI i / nI 2 * nI 2 = bI (decide (i % 2 = 1)) from (pk_rem (by omega) (by decide) (by decide)).trans (by rcases Nat.mod_two_eq_zero_or_one i with q | q <;> rw [q] <;> rfl), pk_div (by omega) (by decide) (by decide)]
            refine V_cV3I X dX12_slipsOf_105 kX12_170 (m_slipOf l G ad wz hO2 K hJ2.2.2.2.2.1 hJ2.2.2.1 en.2 (i / 2) (decide (i % 2 = 1)) (by omega) (by omega)) (by assumption) (by rfl) (Nat.le_of_ble_eq_true rfl) ⟨⟨Nat.le_of_ble_eq_true rfl, Nat.le_of_ble_eq_true rfl⟩, Nat.le_of_ble_eq_true rfl, Nat.le_of_ble_eq_true rfl⟩ (fun r ws2 hc => ?_)
            obtain ⟨rfl, hw9⟩ := hc
            obtain rfl := hw9.symm
            refine V_istore_7 X dX12_slipsOf_108 (Nat.le_of_ble_eq_true rfl) rfl ?_
            refine V_aload_n0 X dX12_slipsOf_110 ?_
            refine V_getf X dX12_slipsOf_111 fX12_31 (by assumption) (by rfl) ?_
            refine V_iload_7 X dX12_slipsOf_114 ?_
            refine V_iald X (slipQ K en.2 (i / 2) (decide (i % 2 = 1))) dX12_slipsOf_116 (by assumption) rfl (by omega) (by omega) ?_
            refine V_iconstE X (-1) dX12_slipsOf_117 (by decide +kernel) ?_
            rw [hs2 _ (by omega)]
            have same : slipB n K nj Js kg (en.1 + 1) en.2 (i / 2) (decide (i % 2 = 1)) L2 = L2 → V p l e (rmm 8 0 0) s m args below meth c 0 0 (MQ below (QQ G A (pI ad (fun r ws2 => r = bfsB n K nj Js kg to 10001 0 [(0, fro)] ∧ (∃ fs1 fq1, ws2[37]? = some (iA 10000 fs1) ∧ ws2[38]? = some (iA 10000 fq1)) ∧ fr [37, 38] ws ws2))) args s 0 0 A) G A 8 ad wz 159 [some (.ref 29), some (.int (nI fro)), some (.int (nI to)), some (.int (nI L2.length)), some (.int (nI a)), some (.int (nI en.2)), some (.int (nI i)), some (.int (nI (slipQ K en.2 (i / 2) (decide (i % 2 = 1)))))] [] := by
              intro hsm
              refine V_iinc_6 X dX12_slipsOf_159 (Nat.le_of_ble_eq_true rfl) rfl (inc1 _) ?_
              refine V_goto X 71 dX12_slipsOf_162 (by decide) ?_
              exact ih (j - 1) _ _ (by omega) ⟨i + 1, L2, _, by omega, by rw [hnx, hsm], fun _ => e6, ⟨fs, fq, hs1, hq1, hs2, hq2⟩, hfr, rfl⟩
            refine V_icmp_ne X 159 dX12_slipsOf_118 (by decide) (fun h7 => ?_) (fun h7 => ?_)
            · have e5 : hasP L2 (slipQ K en.2 (i / 2) (decide (i % 2 = 1))) = true := by
                cases hh : hasP L2 (slipQ K en.2 (i / 2) (decide (i % 2 = 1)))
                · exact absurd (labI_no hh) h7
                · rfl
              exact same (by rw [slipB, e5]; rfl)
            · have e5 := (labI_m1 hg2 _).mp h7
              have hlt := goodB_lt hg2 e5 hql
              refine V_aload_n0 X dX12_slipsOf_121 ?_
              refine V_iload_5 X dX12_slipsOf_122 ?_
              refine V_iload_7 X dX12_slipsOf_124 ?_
              refine V_cV2I X dX12_slipsOf_126 kX12_130 (m_isLet l G ad wz hO2 K kg Js hJ2 en.2 _ (by omega) (by omega)) (by assumption) (by rfl) (Nat.le_of_ble_eq_true rfl) ⟨⟨Nat.le_of_ble_eq_true rfl, Nat.le_of_ble_eq_true rfl⟩, Nat.le_of_ble_eq_true rfl, Nat.le_of_ble_eq_true rfl⟩ (fun r ws2 hc => ?_)
              obtain ⟨rfl, hw9⟩ := hc
              obtain rfl := hw9.symm
              refine V_if_eq X 159 dX12_slipsOf_129 (by decide) (fun h8 => ?_) (fun h8 => ?_)
              · have e4 := b_of0 h8
                exact same (by rw [slipB, e4, Bool.and_false]; rfl)
              · have e4 := b_of1 h8
                refine V_aload_n0 X dX12_slipsOf_132 ?_
                refine V_getf X dX12_slipsOf_133 fX12_31 (by assumption) (by rfl) ?_
                refine V_iload_7 X dX12_slipsOf_136 ?_
                refine V_aload_n0 X dX12_slipsOf_138 ?_
                refine V_getf X dX12_slipsOf_139 fX12_31 (by assumption) (by rfl) ?_
                refine V_iload_5 X dX12_slipsOf_142 ?_
                refine V_iald X en.2 dX12_slipsOf_144 (by assumption) rfl (by omega) (by omega) ?_
                rw [hs2 en.2 (by omega), labI_in hg2 (List.mem_of_getElem? hge)]
                refine V_iconstE X (nI 1) dX12_slipsOf_145 (by decide +kernel) ?_
                refine V_iadd X dX12_slipsOf_146 ?_
                rw [nI_add]
                refine V_iast X (slipQ K en.2 (i / 2) (decide (i % 2 = 1))) dX12_slipsOf_147 (by assumption) rfl (by omega) (by omega) ?_
                have hO3 := gne (k := 37) (e2 := iA 10000 (upd fs (slipQ K en.2 (i / 2) (decide (i % 2 = 1))) (nI (en.1 + 1)))) (by decide) hO2
                have hq3 := gne (k := 37) (e2 := iA 10000 (upd fs (slipQ K en.2 (i / 2) (decide (i % 2 = 1))) (nI (en.1 + 1)))) (by decide) hq1
                refine V_aload_n0 X dX12_slipsOf_148 ?_
                refine V_getf X dX12_slipsOf_149 fX12_34 (by assumption) (by rfl) ?_
                refine V_iload_n3 X dX12_slipsOf_152 ?_
                refine V_iload_7 X dX12_slipsOf_153 ?_
                refine V_iast X L2.length dX12_slipsOf_155 (by assumption) rfl (by omega) (by omega) ?_
                refine V_iinc_3 X dX12_slipsOf_156 (Nat.le_of_ble_eq_true rfl) rfl (inc1 _) ?_
                refine V_iinc_6 X dX12_slipsOf_159 (Nat.le_of_ble_eq_true rfl) rfl (inc1 _) ?_
                refine V_goto X 71 dX12_slipsOf_162 (by decide) ?_
                refine ih (j - 1) _ _ (by omega) ⟨i + 1, L2 ++ [(en.1 + 1, slipQ K en.2 (i / 2) (decide (i % 2 = 1)))], _, by omega, ?_, fun _ => e6, ⟨_, _, gne (by decide) (gset hs1), gset hq3, fun p0 hp0 => ?_, fun x y hx => ?_⟩, (hfr.set (by decide)).set (by decide), by rw [List.length_append]; rfl⟩
                · rw [hnx, slipB, e5, e4]; rfl
                · rw [labI_app e5]
                  by_cases q : p0 = slipQ K en.2 (i / 2) (decide (i % 2 = 1))
                  · rw [if_pos q, q, pk_us]
                  · rw [if_neg q, pk_un q]; exact hs2 p0 hp0
                · rcases Nat.lt_trichotomy x L2.length with q | q | q
                  · rw [List.getElem?_append_left q] at hx
                    rw [pk_un (by omega)]; exact hq2 x y hx
                  · subst q
                    rw [List.getElem?_concat_length] at hx
                    cases hx
                    rw [pk_us]
                  · rw [List.getElem?_eq_none (by simp; omega)] at hx
                    cases hx
  · have e9 := c_nle h
    have fin : ∀ x : Int32, x = labI [(0, fro)] i → V p l e (rmm 8 0 0) s m args below meth c 0 0 (MQ below (QQ G A (pI ad (fun r ws2 => r = bfsB n K nj Js kg to 10001 0 [(0, fro)] ∧ (∃ fs1 fq1, ws2[37]? = some (iA 10000 fs1) ∧ ws2[38]? = some (iA 10000 fq1)) ∧ fr [37, 38] ws ws2))) args s 0 0 A) G A 8 ad wk 24 [some (.ref 29), some (.int (nI fro)), some (.int (nI to)), some (.int (nI i)), none, none, none, none] [.int x, .int (nI i), .ref 37] := by
      intro x hx
      refine V_iast X i dX12_slipsOf_24 (by assumption) rfl e9 (by omega) ?_
      refine V_iinc_3 X dX12_slipsOf_25 (Nat.le_of_ble_eq_true rfl) rfl (inc1 _) ?_
      refine V_goto X 2 dX12_slipsOf_28 (by decide) ?_
      refine ih (k - 1) _ _ (by omega) ⟨i + 1, _, by omega, gset hs1, fun p hp => ?_, hfr.set (by decide), rfl⟩
      by_cases e : p = i
      · subst e; rw [pk_us]; exact hx
      · rw [pk_un e]; exact hs2 p (by omega)
    refine V_aload_n0 X dX12_slipsOf_9 ?_
    refine V_getf X dX12_slipsOf_10 fX12_31 (by assumption) (by rfl) ?_
    refine V_iload_n3 X dX12_slipsOf_13 ?_
    refine V_iload_n3 X dX12_slipsOf_14 ?_
    refine V_iload_n1 X dX12_slipsOf_15 ?_
    refine V_icmp_ne X 23 dX12_slipsOf_16 (by decide) (fun h2 => ?_) (fun h2 => ?_)
    · have e8 := c_ne h2
      refine V_iconstE X (-1) dX12_slipsOf_23 (by decide +kernel) ?_
      exact fin _ (by simp [labI, Ne.symm e8])
    · have e8 := c_eq h2
      refine V_iconstE X (nI 0) dX12_slipsOf_19 (by decide +kernel) ?_
      refine V_goto X 24 dX12_slipsOf_20 (by decide) ?_
      exact fin _ (by simp [labI, e8])
