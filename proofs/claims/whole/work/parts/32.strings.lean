set_option maxHeartbeats 4000000 in
set_option maxRecDepth 100000 in
theorem s_coder (l : Launch) (D : va_G) (cI cC : ClassId) (adK adV : Nat → Nat) (i : Nat) (hi : i < nJS) (sz : Nat) : Met l yJ0_coder wsJ0_coder ({ frames := 0, cells := 0, slots := 0, locals := 0 } : Room) (zPre (zEs adK adV) D vwCl [(cI, .int), (cC, .char)] [.ref (adK i)] [] sz) (va_Qi (fun (rv : Int32) (uu : Unit) => rv = nI 0 ∧ True) (fun (uu : Unit) t9 => va_P D vwCl ([]) t9.heap) (va_A [] sz)) 0 0 (va_A [] sz) := by
  refine zMet (cc := cJ0_coder) (maxL := 1) (ret := (some .byte)) (Qc := fun A => (va_Qi (fun (rv : Int32) (uu : Unit) => rv = nI 0 ∧ True) (fun (uu : Unit) t9 => va_P D vwCl ([]) t9.heap) A)) (by decide) rfl (Nat.le_of_ble_eq_true rfl) ?_
  intro pr en s0 mi bl me co A hC hA hK hE H locs hP hD hS ls hl
  obtain ⟨hx, hb, hr, hml, hown, hts, hlocks, hin⟩ := id hC
  have hl : lv_has ls 1 [(0, .ref (adK i))] := hl
  refine va_gets (v := .int 1) hx hb hE.2.2.1 hS hown (hts _ (List.mem_cons_of_mem _ mw_321)) (fun _ h9 => h9) dJ0_coder_0 ?_
  refine zz_top (y := nI 1) rfl ?_
  refine lv_if_eq (tgt := 13) hx hb dJ0_coder_3 (by decide) (fun h9 => absurd h9 (by decide)) (fun _ => ?_)
  refine lv_aload_n hx hb dJ0_coder_6 rfl (lv_at hl 0 rfl) ?_
  refine vk_getf (v := .int 0) hx hb (hE.2.1.1 i hi).2.1 hS hown (hts _ (List.mem_cons_of_mem _ mw_646)) (fun _ h9 => h9) dJ0_coder_7 ?_
  refine zz_top (y := nI 0) rfl ?_
  refine lv_goto (tgt := 14) hx hb dJ0_coder_10 (by decide) ?_
  exact zIret hC hS () ⟨rfl, trivial⟩ hP rfl dJ0_coder_14
set_option maxHeartbeats 4000000 in
set_option maxRecDepth 100000 in
theorem s_isLatin1 (l : Launch) (D : va_G) (cI cC : ClassId) (adK adV : Nat → Nat) (i : Nat) (hi : i < nJS) (sz : Nat) : Met l yJ0_isLatin1 wsJ0_isLatin1 ({ frames := 0, cells := 0, slots := 0, locals := 0 } : Room) (zPre (zEs adK adV) D vwCl [(cI, .int), (cC, .char)] [.ref (adK i)] [] sz) (va_Qi (fun (rv : Int32) (uu : Unit) => rv = nI 1 ∧ True) (fun (uu : Unit) t9 => va_P D vwCl ([]) t9.heap) (va_A [] sz)) 0 0 (va_A [] sz) := by
  refine zMet (cc := cJ0_isLatin1) (maxL := 1) (ret := (some .boolean)) (Qc := fun A => (va_Qi (fun (rv : Int32) (uu : Unit) => rv = nI 1 ∧ True) (fun (uu : Unit) t9 => va_P D vwCl ([]) t9.heap) A)) (by decide) rfl (Nat.le_of_ble_eq_true rfl) ?_
  intro pr en s0 mi bl me co A hC hA hK hE H locs hP hD hS ls hl
  obtain ⟨hx, hb, hr, hml, hown, hts, hlocks, hin⟩ := id hC
  have hl : lv_has ls 1 [(0, .ref (adK i))] := hl
  refine va_gets (v := .int 1) hx hb hE.2.2.1 hS hown (hts _ (List.mem_cons_of_mem _ mw_321)) (fun _ h9 => h9) dJ0_isLatin1_0 ?_
  refine zz_top (y := nI 1) rfl ?_
  refine lv_if_eq (tgt := 17) hx hb dJ0_isLatin1_3 (by decide) (fun h9 => absurd h9 (by decide)) (fun _ => ?_)
  refine lv_aload_n hx hb dJ0_isLatin1_6 rfl (lv_at hl 0 rfl) ?_
  refine vk_getf (v := .int 0) hx hb (hE.2.1.1 i hi).2.1 hS hown (hts _ (List.mem_cons_of_mem _ mw_646)) (fun _ h9 => h9) dJ0_isLatin1_7 ?_
  refine zz_top (y := nI 0) rfl ?_
  refine lv_if_ne (tgt := 17) hx hb dJ0_isLatin1_10 (by decide) (fun h9 => absurd (by decide) h9) (fun _ => ?_)
  refine lv_iconst (v := nI 1) hx hb dJ0_isLatin1_13 (by decide) ?_
  refine lv_goto (tgt := 18) hx hb dJ0_isLatin1_14 (by decide) ?_
  exact zIret hC hS () ⟨rfl, trivial⟩ hP (by decide) dJ0_isLatin1_18
set_option maxHeartbeats 4000000 in
set_option maxRecDepth 100000 in
theorem s_length (l : Launch) (D : va_G) (cI cC : ClassId) (adK adV : Nat → Nat) (i : Nat) (hi : i < nJS) (sz : Nat) : Met l yJ0_length wsJ0_length ({ frames := 1, cells := 0, slots := 0, locals := 20 } : Room) (zPre (zEs adK adV) D vwCl [(cI, .int), (cC, .char)] [.ref (adK i)] [] sz) (va_Qi (fun (rv : Int32) (uu : Unit) => rv = nI (lenJS.getD i 0) ∧ True) (fun (uu : Unit) t9 => va_P D vwCl ([]) t9.heap) (va_A [] sz)) 0 0 (va_A [] sz) := by
  refine zMet (cc := cJ0_length) (maxL := 1) (ret := (some .int)) (Qc := fun A => (va_Qi (fun (rv : Int32) (uu : Unit) => rv = nI (lenJS.getD i 0) ∧ True) (fun (uu : Unit) t9 => va_P D vwCl ([]) t9.heap) A)) (by decide) rfl (Nat.le_of_ble_eq_true rfl) ?_
  intro pr en s0 mi bl me co A hC hA hK hE H locs hP hD hS ls hl
  obtain ⟨hx, hb, hr, hml, hown, hts, hlocks, hin⟩ := id hC
  have hl : lv_has ls 1 [(0, .ref (adK i))] := hl
  refine lv_aload_n hx hb dJ0_length_0 rfl (lv_at hl 0 rfl) ?_
  refine vk_getf (v := .ref (adV i)) hx hb (hE.2.1.1 i hi).2.2.1 hS hown (hts _ (List.mem_cons_of_mem _ mw_645)) (fun _ h9 => h9) dJ0_length_1 ?_
  refine va_tlen (v := nI (lenJS.getD i 0)) hx hb (hE.2.1.1 i hi).2.2.2 hS rfl dJ0_length_4 ?_
  refine lv_aload_n hx hb dJ0_length_5 rfl (lv_at hl 0 rfl) ?_
  refine zCi (is := []) (wf := (fun (uu : Unit) => ([] : va_W))) (va_runV (As := []) (rest := [.int (nI (lenJS.getD i 0))]) ⟨hx, hb, hml, hown, hts⟩ (s_coder l D cI cC adK adV i hi H.size) (cwV 0 hts (zgood mw_317 mw_318 mw_319 mw_33 mw_320) rfl rfl rfl (by decide +kernel) ⟨Nat.le_of_ble_eq_true rfl, Nat.le_of_ble_eq_true rfl⟩) ⟨zBlind (zEs_ok adK adV), vk_recv hE.2.1 hi hS, zAt (av := [.ref (adK i)]) (zEs_ok adK adV) hP hD hK hS hA hE [] rfl (by decide)⟩ rfl rfl hl.1 rfl (lv_room (Nat.le_of_ble_eq_true rfl)) dJ0_length_6 ⟨Nat.zero_le _, Nat.zero_le _⟩) hP hD hS hA rfl (fun _ => rfl) (fun r6 u6 H locs w6 hP hD hS => ?_)
  obtain ⟨rfl, w6⟩ := w6
  have hP : va_P D vwCl [] H := hP
  have hD : va_D A [] := hD
  refine lv_ishr hx hb dJ0_length_9 ?_
  refine zz_top (y := nI (lenJS.getD i 0)) (sc_shr0 (zs_len hi)) ?_
  exact zIret hC hS () ⟨rfl, trivial⟩ hP (vp_nar_int _) dJ0_length_10
set_option maxHeartbeats 4000000 in
set_option maxRecDepth 100000 in
theorem s_pcheckN (l : Launch) (D : va_G) (cI cC : ClassId)  (k n : Nat) (hn : n ≤ 1000) (hk : k < n) (sz : Nat) : Met l yJ3_checkIndex wsJ3_checkIndex ({ frames := 0, cells := 0, slots := 0, locals := 0 } : Room) (zPre zE0 D vwCl [(cI, .int), (cC, .char)] [.int (nI k), .int (nI n), .null] [] sz) (va_Qi (fun (rv : Int32) (uu : Unit) => rv = nI k ∧ True) (fun (uu : Unit) t9 => va_P D vwCl ([]) t9.heap) (va_A [] sz)) 0 0 (va_A [] sz) := by
  refine zMet (cc := cJ3_checkIndex) (maxL := 3) (ret := (some .int)) (Qc := fun A => (va_Qi (fun (rv : Int32) (uu : Unit) => rv = nI k ∧ True) (fun (uu : Unit) t9 => va_P D vwCl ([]) t9.heap) A)) (by decide) rfl (Nat.le_of_ble_eq_true rfl) ?_
  intro pr en s0 mi bl me co A hC hA hK hE H locs hP hD hS ls hl
  obtain ⟨hx, hb, hr, hml, hown, hts, hlocks, hin⟩ := id hC
  have hl : lv_has ls 3 [(0, .int (nI k)), (1, .int (nI n)), (2, .null)] := hl
  refine lv_iload_n hx hb dJ3_checkIndex_0 rfl (lv_at hl 0 rfl) ?_
  refine zz_lt0 (tgt := 9) hx hb dJ3_checkIndex_1 (by decide) (by omega) ?_
  refine lv_iload_n hx hb dJ3_checkIndex_4 rfl (lv_at hl 0 rfl) ?_
  refine lv_iload_n hx hb dJ3_checkIndex_5 rfl (lv_at hl 1 rfl) ?_
  refine zz_lt (tgt := 16) hx hb dJ3_checkIndex_6 (by decide) (by omega) (by omega) (fun c6 => ?_) (fun c6 => ?_)
  · skip
    refine lv_iload_n hx hb dJ3_checkIndex_16 rfl (lv_at hl 0 rfl) ?_
    exact zIret hC hS () ⟨rfl, trivial⟩ hP (vp_nar_int _) dJ3_checkIndex_17
  · skip
    exact absurd c6 (by omega)
set_option maxHeartbeats 4000000 in
set_option maxRecDepth 100000 in
theorem s_pcheckR (l : Launch) (D : va_G) (cI cC : ClassId)  (k n : Nat) (q0 : Nat) (hn : n ≤ 1000) (hk : k < n) (sz : Nat) : Met l yJ3_checkIndex wsJ3_checkIndex ({ frames := 0, cells := 0, slots := 0, locals := 0 } : Room) (zPre zE0 D vwCl [(cI, .int), (cC, .char)] [.int (nI k), .int (nI n), .ref q0] [] sz) (va_Qi (fun (rv : Int32) (uu : Unit) => rv = nI k ∧ True) (fun (uu : Unit) t9 => va_P D vwCl ([]) t9.heap) (va_A [] sz)) 0 0 (va_A [] sz) := by
  refine zMet (cc := cJ3_checkIndex) (maxL := 3) (ret := (some .int)) (Qc := fun A => (va_Qi (fun (rv : Int32) (uu : Unit) => rv = nI k ∧ True) (fun (uu : Unit) t9 => va_P D vwCl ([]) t9.heap) A)) (by decide) rfl (Nat.le_of_ble_eq_true rfl) ?_
  intro pr en s0 mi bl me co A hC hA hK hE H locs hP hD hS ls hl
  obtain ⟨hx, hb, hr, hml, hown, hts, hlocks, hin⟩ := id hC
  have hl : lv_has ls 3 [(0, .int (nI k)), (1, .int (nI n)), (2, .ref q0)] := hl
  refine lv_iload_n hx hb dJ3_checkIndex_0 rfl (lv_at hl 0 rfl) ?_
  refine zz_lt0 (tgt := 9) hx hb dJ3_checkIndex_1 (by decide) (by omega) ?_
  refine lv_iload_n hx hb dJ3_checkIndex_4 rfl (lv_at hl 0 rfl) ?_
  refine lv_iload_n hx hb dJ3_checkIndex_5 rfl (lv_at hl 1 rfl) ?_
  refine zz_lt (tgt := 16) hx hb dJ3_checkIndex_6 (by decide) (by omega) (by omega) (fun c6 => ?_) (fun c6 => ?_)
  · skip
    refine lv_iload_n hx hb dJ3_checkIndex_16 rfl (lv_at hl 0 rfl) ?_
    exact zIret hC hS () ⟨rfl, trivial⟩ hP (vp_nar_int _) dJ3_checkIndex_17
  · skip
    exact absurd c6 (by omega)
set_option maxHeartbeats 4000000 in
set_option maxRecDepth 100000 in
theorem s_check (l : Launch) (D : va_G) (cI cC : ClassId) (adK adV : Nat → Nat) (k n : Nat) (hn : n ≤ 1000) (hk : k < n) (sz : Nat) : Met l yJ0_checkIndex wsJ0_checkIndex ({ frames := 1, cells := 0, slots := 0, locals := 22 } : Room) (zPre (zEs adK adV) D vwCl [(cI, .int), (cC, .char)] [.int (nI k), .int (nI n)] [] sz) (va_Qv (fun (uu : Unit) => True) (fun (uu : Unit) t9 => va_P D vwCl ([]) t9.heap) (va_A [] sz)) 0 0 (va_A [] sz) := by
  refine zMet (cc := cJ0_checkIndex) (maxL := 2) (ret := none) (Qc := fun A => (va_Qv (fun (uu : Unit) => True) (fun (uu : Unit) t9 => va_P D vwCl ([]) t9.heap) A)) (by decide) rfl (Nat.le_of_ble_eq_true rfl) ?_
  intro pr en s0 mi bl me co A hC hA hK hE H locs hP hD hS ls hl
  obtain ⟨hx, hb, hr, hml, hown, hts, hlocks, hin⟩ := id hC
  have hl : lv_has ls 2 [(0, .int (nI k)), (1, .int (nI n))] := hl
  refine lv_iload_n hx hb dJ0_checkIndex_0 rfl (lv_at hl 0 rfl) ?_
  refine lv_iload_n hx hb dJ0_checkIndex_1 rfl (lv_at hl 1 rfl) ?_
  rcases hE.2.2.2.2 with hZ | ⟨q0, hZ⟩
  · skip
    refine va_gets (v := .null) hx hb hZ hS hown (hts _ (List.mem_cons_of_mem _ mw_337)) (fun _ h9 => h9) dJ0_checkIndex_2 ?_
    refine zCi (is := []) (wf := (fun (uu : Unit) => ([] : va_W))) (va_runS (As := [.int (nI k), .int (nI n), .null]) (rest := []) ⟨hx, hb, hml, hown, hts⟩ (s_pcheckN l D cI cC  k n (by omega) (by omega) H.size) (va_cwS 3 hts (zgoodS mw_339 mw_340 mw_35 mw_341) rfl rfl rfl (by decide +kernel) ⟨Nat.le_of_ble_eq_true rfl, Nat.le_of_ble_eq_true rfl⟩) ⟨zBlind zE0_ok, zAt (av := [.int (nI k), .int (nI n), .null]) zE0_ok hP hD hK hS hA trivial [] rfl (by decide)⟩ rfl rfl hl.1 rfl (lv_room (Nat.le_of_ble_eq_true rfl)) dJ0_checkIndex_5 ⟨Nat.zero_le _, Nat.zero_le _⟩) hP hD hS hA rfl (fun _ => rfl) (fun r5 u5 H locs w5 hP hD hS => ?_)
    obtain ⟨rfl, w5⟩ := w5
    have hP : va_P D vwCl [] H := hP
    have hD : va_D A [] := hD
    refine lv_pop hx hb dJ0_checkIndex_8 rfl ?_
    exact zVret hC hS () trivial hP dJ0_checkIndex_9
  · skip
    refine va_gets (v := .ref q0) hx hb hZ hS hown (hts _ (List.mem_cons_of_mem _ mw_337)) (fun _ h9 => h9) dJ0_checkIndex_2 ?_
    refine zCi (is := []) (wf := (fun (uu : Unit) => ([] : va_W))) (va_runS (As := [.int (nI k), .int (nI n), .ref q0]) (rest := []) ⟨hx, hb, hml, hown, hts⟩ (s_pcheckR l D cI cC  k n q0 (by omega) (by omega) H.size) (va_cwS 3 hts (zgoodS mw_339 mw_340 mw_35 mw_341) rfl rfl rfl (by decide +kernel) ⟨Nat.le_of_ble_eq_true rfl, Nat.le_of_ble_eq_true rfl⟩) ⟨zBlind zE0_ok, zAt (av := [.int (nI k), .int (nI n), .ref q0]) zE0_ok hP hD hK hS hA trivial [] rfl (by decide)⟩ rfl rfl hl.1 rfl (lv_room (Nat.le_of_ble_eq_true rfl)) dJ0_checkIndex_5 ⟨Nat.zero_le _, Nat.zero_le _⟩) hP hD hS hA rfl (fun _ => rfl) (fun r5 u5 H locs w5 hP hD hS => ?_)
    obtain ⟨rfl, w5⟩ := w5
    have hP : va_P D vwCl [] H := hP
    have hD : va_D A [] := hD
    refine lv_pop hx hb dJ0_checkIndex_8 rfl ?_
    exact zVret hC hS () trivial hP dJ0_checkIndex_9
set_option maxHeartbeats 4000000 in
set_option maxRecDepth 100000 in
theorem s_lcharAt (l : Launch) (D : va_G) (cI cC : ClassId) (adK adV : Nat → Nat) (i k : Nat) (hi : i < nJS) (hk : k < lenJS.getD i 0) (sz : Nat) : Met l yJ1_charAt wsJ1_charAt ({ frames := 2, cells := 0, slots := 0, locals := 43 } : Room) (zPre (zEs adK adV) D vwCl [(cI, .int), (cC, .char)] [.ref (adV i), .int (nI k)] [] sz) (va_Qi (fun (rv : Int32) (uu : Unit) => rv = nI (ztc i k) ∧ True) (fun (uu : Unit) t9 => va_P D vwCl ([]) t9.heap) (va_A [] sz)) 0 0 (va_A [] sz) := by
  refine zMet (cc := cJ1_charAt) (maxL := 2) (ret := (some .char)) (Qc := fun A => (va_Qi (fun (rv : Int32) (uu : Unit) => rv = nI (ztc i k) ∧ True) (fun (uu : Unit) t9 => va_P D vwCl ([]) t9.heap) A)) (by decide) rfl (Nat.le_of_ble_eq_true rfl) ?_
  intro pr en s0 mi bl me co A hC hA hK hE H locs hP hD hS ls hl
  obtain ⟨hx, hb, hr, hml, hown, hts, hlocks, hin⟩ := id hC
  have hl : lv_has ls 2 [(0, .ref (adV i)), (1, .int (nI k))] := hl
  have l1 := zs_len2 hi
  refine lv_iload_n hx hb dJ1_charAt_0 rfl (lv_at hl 1 rfl) ?_
  refine lv_aload_n hx hb dJ1_charAt_1 rfl (lv_at hl 0 rfl) ?_
  refine va_tlen (v := nI (lenJS.getD i 0)) hx hb (hE.2.1.1 i hi).2.2.2 hS rfl dJ1_charAt_2 ?_
  refine zCv (is := []) (wf := (fun (uu : Unit) => ([] : va_W))) (va_runS (As := [.int (nI k), .int (nI (lenJS.getD i 0))]) (rest := []) ⟨hx, hb, hml, hown, hts⟩ (s_check l D cI cC adK adV k (lenJS.getD i 0) (by omega) (by omega) H.size) (va_cwS 2 hts (zgoodS mw_334 mw_335 mw_33 mw_336) rfl rfl rfl (by decide +kernel) ⟨Nat.le_of_ble_eq_true rfl, Nat.le_of_ble_eq_true rfl⟩) ⟨zBlind (zEs_ok adK adV), zAt (av := [.int (nI k), .int (nI (lenJS.getD i 0))]) (zEs_ok adK adV) hP hD hK hS hA hE [] rfl (by decide)⟩ rfl rfl hl.1 rfl (lv_room (Nat.le_of_ble_eq_true rfl)) dJ1_charAt_3 ⟨Nat.zero_le _, Nat.zero_le _⟩) hP hD hS hA rfl (fun _ => rfl) (fun u3 H locs w3 hP hD hS => ?_)
  have hP : va_P D vwCl [] H := hP
  have hD : va_D A [] := hD
  refine lv_aload_n hx hb dJ1_charAt_6 rfl (lv_at hl 0 rfl) ?_
  refine lv_iload_n hx hb dJ1_charAt_7 rfl (lv_at hl 1 rfl) ?_
  refine va_tb (v := .int ((bytJS.getD i []).getD k 0)) hx hb (hE.2.1.1 i hi).2.2.2 hS (vp_in_nI hk (zs_len hi)) (by rw [nI_clamp (by omega)]) dJ1_charAt_8 ?_
  refine lv_sipush (v := nI 255) hx hb dJ1_charAt_9 (by decide) ?_
  refine lv_iand hx hb dJ1_charAt_12 ?_
  refine zz_top (y := nI (ztc i k)) (zs_and hi hk) ?_
  refine lv_i2c (v := nI (ztc i k)) hx hb dJ1_charAt_13 (zchar (by have := zs_lt hi hk; omega)) ?_
  exact zIret hC hS () ⟨rfl, trivial⟩ hP (pk_charN (by have := zs_lt hi hk; omega)).1 dJ1_charAt_14
set_option maxHeartbeats 4000000 in
set_option maxRecDepth 100000 in
theorem s_charAt (l : Launch) (D : va_G) (cI cC : ClassId) (adK adV : Nat → Nat) (i k : Nat) (hi : i < nJS) (hk : k < lenJS.getD i 0) (sz : Nat) : Met l yJ0_charAt wsJ0_charAt ({ frames := 3, cells := 0, slots := 0, locals := 64 } : Room) (zPre (zEs adK adV) D vwCl [(cI, .int), (cC, .char)] [.ref (adK i), .int (nI k)] [] sz) (va_Qi (fun (rv : Int32) (uu : Unit) => rv = nI (ztc i k) ∧ True) (fun (uu : Unit) t9 => va_P D vwCl ([]) t9.heap) (va_A [] sz)) 0 0 (va_A [] sz) := by
  refine zMet (cc := cJ0_charAt) (maxL := 2) (ret := (some .char)) (Qc := fun A => (va_Qi (fun (rv : Int32) (uu : Unit) => rv = nI (ztc i k) ∧ True) (fun (uu : Unit) t9 => va_P D vwCl ([]) t9.heap) A)) (by decide) rfl (Nat.le_of_ble_eq_true rfl) ?_
  intro pr en s0 mi bl me co A hC hA hK hE H locs hP hD hS ls hl
  obtain ⟨hx, hb, hr, hml, hown, hts, hlocks, hin⟩ := id hC
  have hl : lv_has ls 2 [(0, .ref (adK i)), (1, .int (nI k))] := hl
  refine lv_aload_n hx hb dJ0_charAt_0 rfl (lv_at hl 0 rfl) ?_
  refine zCi (is := []) (wf := (fun (uu : Unit) => ([] : va_W))) (va_runV (As := []) (rest := []) ⟨hx, hb, hml, hown, hts⟩ (s_isLatin1 l D cI cC adK adV i hi H.size) (cwV 0 hts (zgood mw_327 mw_328 mw_329 mw_33 mw_330) rfl rfl rfl (by decide +kernel) ⟨Nat.le_of_ble_eq_true rfl, Nat.le_of_ble_eq_true rfl⟩) ⟨zBlind (zEs_ok adK adV), vk_recv hE.2.1 hi hS, zAt (av := [.ref (adK i)]) (zEs_ok adK adV) hP hD hK hS hA hE [] rfl (by decide)⟩ rfl rfl hl.1 rfl (lv_room (Nat.le_of_ble_eq_true rfl)) dJ0_charAt_1 ⟨Nat.zero_le _, Nat.zero_le _⟩) hP hD hS hA rfl (fun _ => rfl) (fun r1 u1 H locs w1 hP hD hS => ?_)
  obtain ⟨rfl, w1⟩ := w1
  have hP : va_P D vwCl [] H := hP
  have hD : va_D A [] := hD
  refine lv_if_eq (tgt := 16) hx hb dJ0_charAt_4 (by decide) (fun h9 => absurd h9 (by decide)) (fun _ => ?_)
  refine lv_aload_n hx hb dJ0_charAt_7 rfl (lv_at hl 0 rfl) ?_
  refine vk_getf (v := .ref (adV i)) hx hb (hE.2.1.1 i hi).2.2.1 hS hown (hts _ (List.mem_cons_of_mem _ mw_645)) (fun _ h9 => h9) dJ0_charAt_8 ?_
  refine lv_iload_n hx hb dJ0_charAt_11 rfl (lv_at hl 1 rfl) ?_
  refine zCi (is := []) (wf := (fun (uu : Unit) => ([] : va_W))) (va_runS (As := [.ref (adV i), .int (nI k)]) (rest := []) ⟨hx, hb, hml, hown, hts⟩ (s_lcharAt l D cI cC adK adV i k hi hk H.size) (va_cwS 2 hts (zgoodS mw_331 mw_332 mw_34 mw_333) rfl rfl rfl (by decide +kernel) ⟨Nat.le_of_ble_eq_true rfl, Nat.le_of_ble_eq_true rfl⟩) ⟨zBlind (zEs_ok adK adV), zAt (av := [.ref (adV i), .int (nI k)]) (zEs_ok adK adV) hP hD hK hS hA hE [] rfl (by decide)⟩ rfl rfl hl.1 rfl (lv_room (Nat.le_of_ble_eq_true rfl)) dJ0_charAt_12 ⟨Nat.zero_le _, Nat.zero_le _⟩) hP hD hS hA rfl (fun _ => rfl) (fun r12 u12 H locs w12 hP hD hS => ?_)
  obtain ⟨rfl, w12⟩ := w12
  have hP : va_P D vwCl [] H := hP
  have hD : va_D A [] := hD
  exact zIret hC hS () ⟨rfl, trivial⟩ hP (pk_charN (by have := zs_lt hi hk; omega)).1 dJ0_charAt_15
