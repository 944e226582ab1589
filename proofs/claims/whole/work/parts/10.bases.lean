set_option maxHeartbeats 4000000 in
set_option maxRecDepth 100000 in
theorem k_isFull (l : Launch) (D : va_G) (cI cC : ClassId)  (h a u L : Nat) (f : Nat → Nat) (hu : u ≤ 97) (hL : L ≤ 97) (sz : Nat) : Met l yX0_isFull wsX0_isFull ({ frames := 0, cells := 0, slots := 0, locals := 0 } : Room) (zPre zE0 D vwCl [(cI, .int), (cC, .char)] [.ref h] [(h, .inr (0, [.ref a, .int (nI u)])), (a, .inl (cI, L, .inl (fun jj => nI (f jj))))] sz) (va_Qi (fun (rv : Int32) (uu : Unit) => rv = zb (L ≤ u) ∧ True) (fun (uu : Unit) t9 => va_P D vwCl ([(h, .inr (0, [.ref a, .int (nI u)])), (a, .inl (cI, L, .inl (fun jj => nI (f jj))))]) t9.heap) (va_A [(h, .inr (0, [.ref a, .int (nI u)])), (a, .inl (cI, L, .inl (fun jj => nI (f jj))))] sz)) 0 0 (va_A [(h, .inr (0, [.ref a, .int (nI u)])), (a, .inl (cI, L, .inl (fun jj => nI (f jj))))] sz) := by
  refine zMet (cc := cX0_isFull) (maxL := 1) (ret := (some .boolean)) (Qc := fun A => (va_Qi (fun (rv : Int32) (uu : Unit) => rv = zb (L ≤ u) ∧ True) (fun (uu : Unit) t9 => va_P D vwCl ([(h, .inr (0, [.ref a, .int (nI u)])), (a, .inl (cI, L, .inl (fun jj => nI (f jj))))]) t9.heap) A)) (by decide) rfl (Nat.le_of_ble_eq_true rfl) ?_
  intro pr en s0 mi bl me co A hC hA hK hE H locs hP hD hS ls hl
  obtain ⟨hx, hb, hr, hml, hown, hts, hlocks, hin⟩ := id hC
  have hl : lv_has ls 1 [(0, .ref h)] := hl
  refine lv_aload_n hx hb dX0_isFull_0 rfl (lv_at hl 0 rfl) ?_
  refine va_get (D := D) (ci := 0) (v := .int (nI u)) (C := RX0) (T := TX0) (N := 2) hx hb hts (fun w h => List.mem_cons_of_mem _ (inUX0 w h)) hown hK hP 0 rfl rfl 1 (by decide) (hts _ (List.mem_cons_of_mem _ mw_54)) (fun _ h9 => h9) rfl dX0_isFull_1 ?_
  refine lv_aload_n hx hb dX0_isFull_4 rfl (lv_at hl 0 rfl) ?_
  refine va_get (D := D) (ci := 0) (v := .ref a) (C := RX0) (T := TX0) (N := 2) hx hb hts (fun w h => List.mem_cons_of_mem _ (inUX0 w h)) hown hK hP 0 rfl rfl 0 (by decide) (hts _ (List.mem_cons_of_mem _ mw_51)) (fun _ h9 => h9) rfl dX0_isFull_5 ?_
  refine va_alen (v := nI L) hx hb hK hP 1 0 rfl rfl rfl dX0_isFull_8 ?_
  refine zz_lt (tgt := 16) hx hb dX0_isFull_9 (by decide) (by omega) (by omega) (fun c9 => ?_) (fun c9 => ?_)
  · skip
    refine lv_iconst (v := nI 0) hx hb dX0_isFull_16 (by decide) ?_
    exact zIret hC hS () ⟨(zb_f (by omega)).symm, trivial⟩ hP (by decide) dX0_isFull_17
  · skip
    refine lv_iconst (v := nI 1) hx hb dX0_isFull_12 (by decide) ?_
    refine lv_goto (tgt := 17) hx hb dX0_isFull_13 (by decide) ?_
    exact zIret hC hS () ⟨(zb_t (by omega)).symm, trivial⟩ hP (by decide) dX0_isFull_17
set_option maxHeartbeats 4000000 in
set_option maxRecDepth 100000 in
theorem k_append (l : Launch) (D : va_G) (cI cC : ClassId)  (h a u L x : Nat) (f : Nat → Nat) (hu : u < L) (hL : L ≤ 97) (sz : Nat) : Met l yX0_append wsX0_append ({ frames := 1, cells := 0, slots := 0, locals := 20 } : Room) (zPre zE0 D vwCl [(cI, .int), (cC, .char)] [.ref h, .int (nI x)] [(h, .inr (0, [.ref a, .int (nI u)])), (a, .inl (cI, L, .inl (fun jj => nI (f jj))))] sz) (va_Qv (fun (uu : Unit) => True) (fun (uu : Unit) t9 => va_P D vwCl ([(h, .inr (0, [.ref a, .int (nI (u + 1))])), (a, .inl (cI, L, .inl (fun jj => nI (zup f u x jj))))]) t9.heap) (va_A [(h, .inr (0, [.ref a, .int (nI u)])), (a, .inl (cI, L, .inl (fun jj => nI (f jj))))] sz)) 0 0 (va_A [(h, .inr (0, [.ref a, .int (nI u)])), (a, .inl (cI, L, .inl (fun jj => nI (f jj))))] sz) := by
  refine zMet (cc := cX0_append) (maxL := 2) (ret := none) (Qc := fun A => (va_Qv (fun (uu : Unit) => True) (fun (uu : Unit) t9 => va_P D vwCl ([(h, .inr (0, [.ref a, .int (nI (u + 1))])), (a, .inl (cI, L, .inl (fun jj => nI (zup f u x jj))))]) t9.heap) A)) (by decide) rfl (Nat.le_of_ble_eq_true rfl) ?_
  intro pr en s0 mi bl me co A hC hA hK hE H locs hP hD hS ls hl
  obtain ⟨hx, hb, hr, hml, hown, hts, hlocks, hin⟩ := id hC
  have hl : lv_has ls 2 [(0, .ref h), (1, .int (nI x))] := hl
  refine lv_aload_n hx hb dX0_append_0 rfl (lv_at hl 0 rfl) ?_
  refine zCi (is := [0, 1]) (wf := (fun (uu : Unit) => ([(h, .inr (0, [.ref a, .int (nI u)])), (a, .inl (cI, L, .inl (fun jj => nI (f jj))))] : va_W))) (va_runV (As := []) (rest := []) ⟨hx, hb, hml, hown, hts⟩ (k_isFull l D cI cC  h a u L f (by omega) (by omega) H.size) (cwV 0 hts (zgood mw_188 mw_181 mw_182 mw_27 mw_183) rfl rfl rfl (by decide +kernel) ⟨Nat.le_of_ble_eq_true rfl, Nat.le_of_ble_eq_true rfl⟩) ⟨zBlind zE0_ok, va_recv hK hP (ci := 0) (q0 := 0) rfl rfl, zAt (av := [.ref h]) zE0_ok hP hD hK hS hA trivial [0, 1] rfl (by decide)⟩ rfl rfl hl.1 rfl (lv_room (Nat.le_of_ble_eq_true rfl)) dX0_append_1 ⟨Nat.zero_le _, Nat.zero_le _⟩) hP hD hS hA rfl (fun _ => rfl) (fun r1 u1 H locs w1 hP hD hS => ?_)
  obtain ⟨rfl, w1⟩ := w1
  have hP : va_P D vwCl [(h, .inr (0, [.ref a, .int (nI u)])), (a, .inl (cI, L, .inl (fun jj => nI (f jj))))] H := hP
  have hD : va_D A [(h, .inr (0, [.ref a, .int (nI u)])), (a, .inl (cI, L, .inl (fun jj => nI (f jj))))] := hD
  refine zz_neb (tgt := 27) hx hb dX0_append_4 (by decide) (fun c4 => ?_) (fun c4 => ?_)
  · skip
    exact absurd c4 (by omega)
  · skip
    refine lv_aload_n hx hb dX0_append_7 rfl (lv_at hl 0 rfl) ?_
    refine va_get (D := D) (ci := 0) (v := .ref a) (C := RX0) (T := TX0) (N := 2) hx hb hts (fun w h => List.mem_cons_of_mem _ (inUX0 w h)) hown hK hP 0 rfl rfl 0 (by decide) (hts _ (List.mem_cons_of_mem _ mw_51)) (fun _ h9 => h9) rfl dX0_append_8 ?_
    refine lv_aload_n hx hb dX0_append_11 rfl (lv_at hl 0 rfl) ?_
    refine va_get (D := D) (ci := 0) (v := .int (nI u)) (C := RX0) (T := TX0) (N := 2) hx hb hts (fun w h => List.mem_cons_of_mem _ (inUX0 w h)) hown hK hP 0 rfl rfl 1 (by decide) (hts _ (List.mem_cons_of_mem _ mw_54)) (fun _ h9 => h9) rfl dX0_append_12 ?_
    refine lv_iload_n hx hb dX0_append_15 rfl (lv_at hl 1 rfl) ?_
    refine zz_iast (k := u) (x := x) (f := f) hx hb hK hP hD hS 1 0 rfl rfl (by omega) (by omega) dX0_append_16 (fun H locs hP hD hS => ?_)
    have hP : va_P D vwCl [(h, .inr (0, [.ref a, .int (nI u)])), (a, .inl (cI, L, .inl (fun jj => nI (zup f u x jj))))] H := hP
    have hD : va_D A [(h, .inr (0, [.ref a, .int (nI u)])), (a, .inl (cI, L, .inl (fun jj => nI (zup f u x jj))))] := hD
    refine lv_aload_n hx hb dX0_append_17 rfl (lv_at hl 0 rfl) ?_
    refine lv_dup hx hb dX0_append_18 rfl ?_
    refine va_get (D := D) (ci := 0) (v := .int (nI u)) (C := RX0) (T := TX0) (N := 2) hx hb hts (fun w h => List.mem_cons_of_mem _ (inUX0 w h)) hown hK hP 0 rfl rfl 1 (by decide) (hts _ (List.mem_cons_of_mem _ mw_54)) (fun _ h9 => h9) rfl dX0_append_19 ?_
    refine lv_iconst (v := nI 1) hx hb dX0_append_22 (by decide) ?_
    refine lv_iadd hx hb dX0_append_23 ?_
    refine zz_top (y := nI (u + 1)) (zadd (by omega)) ?_
    refine va_put (D := D) (ci := 0) (v := .int (nI (u + 1))) (ty := .int) (C := RX0) (T := TX0) (N := 2) hx hb hts (fun w h => List.mem_cons_of_mem _ (inUX0 w h)) tyX0 tyX0_ok nmX0 hown hK hP hD hS 0 rfl rfl 1 (by decide) (hts _ (List.mem_cons_of_mem _ mw_54)) (fun _ h9 => h9) rfl (by decide +kernel) rfl rfl (Nat.le_of_ble_eq_true rfl) dX0_append_24 (fun H locs hP hD hS => ?_)
    have hP : va_P D vwCl [(h, .inr (0, [.ref a, .int (nI (u + 1))])), (a, .inl (cI, L, .inl (fun jj => nI (zup f u x jj))))] H := hP
    have hD : va_D A [(h, .inr (0, [.ref a, .int (nI (u + 1))])), (a, .inl (cI, L, .inl (fun jj => nI (zup f u x jj))))] := hD
    exact zVret hC hS () trivial hP dX0_append_27
set_option maxHeartbeats 4000000 in
set_option maxRecDepth 100000 in
theorem k_empty (l : Launch) (D : va_G) (cI cC : ClassId)  (h a u : Nat)  (sz : Nat) : Met l yX0_empty wsX0_empty ({ frames := 0, cells := 0, slots := 0, locals := 0 } : Room) (zPre zE0 D vwCl [(cI, .int), (cC, .char)] [.ref h] [(h, .inr (0, [.ref a, .int (nI u)]))] sz) (va_Qv (fun (uu : Unit) => True) (fun (uu : Unit) t9 => va_P D vwCl ([(h, .inr (0, [.ref a, .int (nI 0)]))]) t9.heap) (va_A [(h, .inr (0, [.ref a, .int (nI u)]))] sz)) 0 0 (va_A [(h, .inr (0, [.ref a, .int (nI u)]))] sz) := by
  refine zMet (cc := cX0_empty) (maxL := 1) (ret := none) (Qc := fun A => (va_Qv (fun (uu : Unit) => True) (fun (uu : Unit) t9 => va_P D vwCl ([(h, .inr (0, [.ref a, .int (nI 0)]))]) t9.heap) A)) (by decide) rfl (Nat.le_of_ble_eq_true rfl) ?_
  intro pr en s0 mi bl me co A hC hA hK hE H locs hP hD hS ls hl
  obtain ⟨hx, hb, hr, hml, hown, hts, hlocks, hin⟩ := id hC
  have hl : lv_has ls 1 [(0, .ref h)] := hl
  refine lv_aload_n hx hb dX0_empty_0 rfl (lv_at hl 0 rfl) ?_
  refine lv_iconst (v := nI 0) hx hb dX0_empty_1 (by decide) ?_
  refine va_put (D := D) (ci := 0) (v := .int (nI 0)) (ty := .int) (C := RX0) (T := TX0) (N := 2) hx hb hts (fun w h => List.mem_cons_of_mem _ (inUX0 w h)) tyX0 tyX0_ok nmX0 hown hK hP hD hS 0 rfl rfl 1 (by decide) (hts _ (List.mem_cons_of_mem _ mw_54)) (fun _ h9 => h9) rfl (by decide +kernel) rfl rfl (Nat.le_of_ble_eq_true rfl) dX0_empty_2 (fun H locs hP hD hS => ?_)
  have hP : va_P D vwCl [(h, .inr (0, [.ref a, .int (nI 0)]))] H := hP
  have hD : va_D A [(h, .inr (0, [.ref a, .int (nI 0)]))] := hD
  exact zVret hC hS () trivial hP dX0_empty_5
set_option maxHeartbeats 4000000 in
set_option maxRecDepth 100000 in
theorem k_becomeTurned_L11 {pr : Program} {en : Env} {s0 : State} {mi : MethodId} {bl : List Frame} {me : Method} {co : Code} {A : Nat → Prop} (l : Launch) (D : va_G) (cI cC : ClassId)  (h a ut o b w : Nat) (f0 r : Nat → Nat) (hw : w ≤ 24) (hr3 : ∀ i, i < w → r i ≤ 3) (hC : zK pr s0 mi ([.ref h, .ref o] : List Value).toArray me co cX0_becomeTurned 3 none yX0_becomeTurned wsX0_becomeTurned) (hA : ∀ q, s0.heap.size ≤ q → A q) (hK : va_K D vwCl [(cI, .int), (cC, .char)] s0) (hE : zE0 A s0 s0.heap) :
    ∀ (N : Nat) (j : Nat) (f : Nat → Nat), j < N → (j ≤ w) → (∀ i, i < w - j → f i = 3 - r (w - 1 - i)) → ∀ (H : Heap) (locs : List Loc), va_P D vwCl [(h, .inr (0, [.ref a, .int (nI (w - j))])), (a, .inl (cI, 24, .inl (fun jj => nI (f jj)))), (o, .inr (0, [.ref b, .int (nI w)])), (b, .inl (cI, 24, .inl (fun jj => nI (r jj))))] H → va_D A [(h, .inr (0, [.ref a, .int (nI (w - j))])), (a, .inl (cI, 24, .inl (fun jj => nI (f jj)))), (o, .inr (0, [.ref b, .int (nI w)])), (b, .inl (cI, 24, .inl (fun jj => nI (r jj))))] → va_S A s0.heap H locs → ∀ ls : Array Slot, lv_has ls 3 [(0, .ref h), (1, .ref o), (2, .int (zi j))] → W pr l en ({ frames := 2, cells := 0, slots := 0, locals := 41 } : Room) s0 mi ([.ref h, .ref o] : List Value).toArray bl me co H locs 0 0 (MQ bl (va_Qv (fun (uu : Nat → Nat) => ∀ i, i < w → uu i = 3 - r (w - 1 - i)) (fun (uu : Nat → Nat) t9 => va_P D vwCl ([(h, .inr (0, [.ref a, .int (nI w)])), (a, .inl (cI, 24, .inl (fun jj => nI (uu jj)))), (o, .inr (0, [.ref b, .int (nI w)])), (b, .inl (cI, 24, .inl (fun jj => nI (r jj))))]) t9.heap) A) ([.ref h, .ref o] : List Value).toArray s0 0 0 A) (F0 mi 11 ls []) := by
  obtain ⟨hx, hb, hr, hml, hown, hts, hlocks, hin⟩ := id hC
  intro N
  induction N with
  | zero =>
    intro j f hmea
    omega
  | succ N ih =>
    intro j f hmea hj hf H locs hP hD hS ls hl
    cases j with
    | zero =>
      have hl : lv_has ls 3 [(0, .ref h), (1, .ref o), (2, .int ((-1)))] := hl
      have hP : va_P D vwCl [(h, .inr (0, [.ref a, .int (nI (w - 0))])), (a, .inl (cI, 24, .inl (fun jj => nI (f jj)))), (o, .inr (0, [.ref b, .int (nI w)])), (b, .inl (cI, 24, .inl (fun jj => nI (r jj))))] H := hP
      have hD : va_D A [(h, .inr (0, [.ref a, .int (nI (w - 0))])), (a, .inl (cI, 24, .inl (fun jj => nI (f jj)))), (o, .inr (0, [.ref b, .int (nI w)])), (b, .inl (cI, 24, .inl (fun jj => nI (r jj))))] := hD
      refine lv_iload_n hx hb dX0_becomeTurned_11 rfl (lv_at hl 2 rfl) ?_
      refine lv_if_lt (tgt := 33) hx hb dX0_becomeTurned_12 (by decide) (fun c12 => ?_) (fun c12 => ?_)
      · skip
        have hP : va_P D vwCl [(h, .inr (0, [.ref a, .int (nI w)])), (a, .inl (cI, 24, .inl (fun jj => nI (f jj)))), (o, .inr (0, [.ref b, .int (nI w)])), (b, .inl (cI, 24, .inl (fun jj => nI (r jj))))] H := by skip; exact hP
        have hD : va_D A [(h, .inr (0, [.ref a, .int (nI w)])), (a, .inl (cI, 24, .inl (fun jj => nI (f jj)))), (o, .inr (0, [.ref b, .int (nI w)])), (b, .inl (cI, 24, .inl (fun jj => nI (r jj))))] := by skip; exact hD
        exact zVret hC hS f (fun i hi => hf i (by omega)) hP dX0_becomeTurned_33
      · skip
        exact absurd (by decide) c12
    | succ j =>
      have hl : lv_has ls 3 [(0, .ref h), (1, .ref o), (2, .int (nI j))] := hl
      have hP : va_P D vwCl [(h, .inr (0, [.ref a, .int (nI (w - (j + 1)))])), (a, .inl (cI, 24, .inl (fun jj => nI (f jj)))), (o, .inr (0, [.ref b, .int (nI w)])), (b, .inl (cI, 24, .inl (fun jj => nI (r jj))))] H := hP
      have hD : va_D A [(h, .inr (0, [.ref a, .int (nI (w - (j + 1)))])), (a, .inl (cI, 24, .inl (fun jj => nI (f jj)))), (o, .inr (0, [.ref b, .int (nI w)])), (b, .inl (cI, 24, .inl (fun jj => nI (r jj))))] := hD
      refine lv_iload_n hx hb dX0_becomeTurned_11 rfl (lv_at hl 2 rfl) ?_
      refine zz_lt0 (tgt := 33) hx hb dX0_becomeTurned_12 (by decide) (by omega) ?_
      refine lv_aload_n hx hb dX0_becomeTurned_15 rfl (lv_at hl 0 rfl) ?_
      refine lv_iconst (v := nI 3) hx hb dX0_becomeTurned_16 (by decide) ?_
      refine lv_aload_n hx hb dX0_becomeTurned_17 rfl (lv_at hl 1 rfl) ?_
      refine va_get (D := D) (ci := 0) (v := .ref b) (C := RX0) (T := TX0) (N := 2) hx hb hts (fun w h => List.mem_cons_of_mem _ (inUX0 w h)) hown hK hP 2 rfl rfl 0 (by decide) (hts _ (List.mem_cons_of_mem _ mw_51)) (fun _ h9 => h9) rfl dX0_becomeTurned_18 ?_
      refine lv_iload_n hx hb dX0_becomeTurned_21 rfl (lv_at hl 2 rfl) ?_
      refine zz_iald (k := j) (f := r) hx hb hK hP 3 0 rfl rfl (by omega) (by omega) dX0_becomeTurned_22 ?_
      refine lv_isub hx hb dX0_becomeTurned_23 ?_
      refine zz_top (y := nI (3 - (r j))) (pk_sub (hr3 j (by omega))) ?_
      refine zCv (is := [0, 1]) (wf := (fun (uu : Unit) => ([(h, .inr (0, [.ref a, .int (nI ((w - (j + 1)) + 1))])), (a, .inl (cI, 24, .inl (fun jj => nI (zup f (w - (j + 1)) (3 - r j) jj))))] : va_W))) (va_runV (As := [.int (nI (3 - (r j)))]) (rest := []) ⟨hx, hb, hml, hown, hts⟩ (k_append l D cI cC  h a (w - (j + 1)) 24 (3 - r j) f (by omega) (by omega) H.size) (cwV 1 hts (zgood mw_218 mw_185 mw_186 mw_27 mw_187) rfl rfl rfl (by decide +kernel) ⟨Nat.le_of_ble_eq_true rfl, Nat.le_of_ble_eq_true rfl⟩) ⟨zBlind zE0_ok, va_recv hK hP (ci := 0) (q0 := 0) rfl rfl, zAt (av := [.ref h, .int (nI (3 - (r j)))]) zE0_ok hP hD hK hS hA trivial [0, 1] rfl (by decide)⟩ rfl rfl hl.1 rfl (lv_room (Nat.le_of_ble_eq_true rfl)) dX0_becomeTurned_24 ⟨Nat.zero_le _, Nat.zero_le _⟩) hP hD hS hA rfl (fun _ => rfl) (fun u24 H locs w24 hP hD hS => ?_)
      have hP : va_P D vwCl [(h, .inr (0, [.ref a, .int (nI ((w - (j + 1)) + 1))])), (a, .inl (cI, 24, .inl (fun jj => nI (zup f (w - (j + 1)) (3 - r j) jj)))), (o, .inr (0, [.ref b, .int (nI w)])), (b, .inl (cI, 24, .inl (fun jj => nI (r jj))))] H := hP
      have hD : va_D A [(h, .inr (0, [.ref a, .int (nI ((w - (j + 1)) + 1))])), (a, .inl (cI, 24, .inl (fun jj => nI (zup f (w - (j + 1)) (3 - r j) jj)))), (o, .inr (0, [.ref b, .int (nI w)])), (b, .inl (cI, 24, .inl (fun jj => nI (r jj))))] := hD
      refine lv_iinc (v := zi j) (lv' := [(2, .int (zi j)), (0, .ref h), (1, .ref o)]) hx hb dX0_becomeTurned_27 hl (k := 2) rfl (zi_dec j) (by decide) rfl (fun ls hl => ?_)
      refine lv_goto (tgt := 11) hx hb dX0_becomeTurned_30 (by decide) ?_
      have hP : va_P D vwCl [(h, .inr (0, [.ref a, .int (nI (w - j))])), (a, .inl (cI, 24, .inl (fun jj => nI (zup f (w - (j + 1)) (3 - r j) jj)))), (o, .inr (0, [.ref b, .int (nI w)])), (b, .inl (cI, 24, .inl (fun jj => nI (r jj))))] H := by rw [show w - j = w - (j + 1) + 1 by omega]; exact hP
      have hD : va_D A [(h, .inr (0, [.ref a, .int (nI (w - j))])), (a, .inl (cI, 24, .inl (fun jj => nI (zup f (w - (j + 1)) (3 - r j) jj)))), (o, .inr (0, [.ref b, .int (nI w)])), (b, .inl (cI, 24, .inl (fun jj => nI (r jj))))] := by rw [show w - j = w - (j + 1) + 1 by omega]; exact hD
      exact ih j (zup f (w - (j + 1)) (3 - r j)) (by omega) (by omega) (fun i hi => by
        by_cases q : i = w - (j + 1)
        · rw [q, zup_s, show w - 1 - (w - (j + 1)) = j by omega]
        · rw [zup_n q]; exact hf i (by omega)) _ _ hP hD hS ls (lv_sub hl [1, 2, 0] rfl)
set_option maxHeartbeats 4000000 in
set_option maxRecDepth 100000 in
theorem k_becomeTurned (l : Launch) (D : va_G) (cI cC : ClassId)  (h a ut o b w : Nat) (f0 r : Nat → Nat) (hw : w ≤ 24) (hr3 : ∀ i, i < w → r i ≤ 3) (sz : Nat) : Met l yX0_becomeTurned wsX0_becomeTurned ({ frames := 2, cells := 0, slots := 0, locals := 41 } : Room) (zPre zE0 D vwCl [(cI, .int), (cC, .char)] [.ref h, .ref o] [(h, .inr (0, [.ref a, .int (nI ut)])), (a, .inl (cI, 24, .inl (fun jj => nI (f0 jj)))), (o, .inr (0, [.ref b, .int (nI w)])), (b, .inl (cI, 24, .inl (fun jj => nI (r jj))))] sz) (va_Qv (fun (uu : Nat → Nat) => ∀ i, i < w → uu i = 3 - r (w - 1 - i)) (fun (uu : Nat → Nat) t9 => va_P D vwCl ([(h, .inr (0, [.ref a, .int (nI w)])), (a, .inl (cI, 24, .inl (fun jj => nI (uu jj)))), (o, .inr (0, [.ref b, .int (nI w)])), (b, .inl (cI, 24, .inl (fun jj => nI (r jj))))]) t9.heap) (va_A [(h, .inr (0, [.ref a, .int (nI ut)])), (a, .inl (cI, 24, .inl (fun jj => nI (f0 jj)))), (o, .inr (0, [.ref b, .int (nI w)])), (b, .inl (cI, 24, .inl (fun jj => nI (r jj))))] sz)) 0 0 (va_A [(h, .inr (0, [.ref a, .int (nI ut)])), (a, .inl (cI, 24, .inl (fun jj => nI (f0 jj)))), (o, .inr (0, [.ref b, .int (nI w)])), (b, .inl (cI, 24, .inl (fun jj => nI (r jj))))] sz) := by
  refine zMet (cc := cX0_becomeTurned) (maxL := 3) (ret := none) (Qc := fun A => (va_Qv (fun (uu : Nat → Nat) => ∀ i, i < w → uu i = 3 - r (w - 1 - i)) (fun (uu : Nat → Nat) t9 => va_P D vwCl ([(h, .inr (0, [.ref a, .int (nI w)])), (a, .inl (cI, 24, .inl (fun jj => nI (uu jj)))), (o, .inr (0, [.ref b, .int (nI w)])), (b, .inl (cI, 24, .inl (fun jj => nI (r jj))))]) t9.heap) A)) (by decide) rfl (Nat.le_of_ble_eq_true rfl) ?_
  intro pr en s0 mi bl me co A hC hA hK hE H locs hP hD hS ls hl
  obtain ⟨hx, hb, hr, hml, hown, hts, hlocks, hin⟩ := id hC
  have hl : lv_has ls 3 [(0, .ref h), (1, .ref o)] := hl
  refine lv_aload_n hx hb dX0_becomeTurned_0 rfl (lv_at hl 0 rfl) ?_
  refine zCv (is := [0]) (wf := (fun (uu : Unit) => ([(h, .inr (0, [.ref a, .int (nI 0)]))] : va_W))) (va_runV (As := []) (rest := []) ⟨hx, hb, hml, hown, hts⟩ (k_empty l D cI cC  h a ut  H.size) (cwV 0 hts (zgood mw_217 mw_198 mw_199 mw_27 mw_200) rfl rfl rfl (by decide +kernel) ⟨Nat.le_of_ble_eq_true rfl, Nat.le_of_ble_eq_true rfl⟩) ⟨zBlind zE0_ok, va_recv hK hP (ci := 0) (q0 := 0) rfl rfl, zAt (av := [.ref h]) zE0_ok hP hD hK hS hA trivial [0] rfl (by decide)⟩ rfl rfl hl.1 rfl (lv_room (Nat.le_of_ble_eq_true rfl)) dX0_becomeTurned_1 ⟨Nat.zero_le _, Nat.zero_le _⟩) hP hD hS hA rfl (fun _ => rfl) (fun u1 H locs w1 hP hD hS => ?_)
  have hP : va_P D vwCl [(h, .inr (0, [.ref a, .int (nI 0)])), (a, .inl (cI, 24, .inl (fun jj => nI (f0 jj)))), (o, .inr (0, [.ref b, .int (nI w)])), (b, .inl (cI, 24, .inl (fun jj => nI (r jj))))] H := hP
  have hD : va_D A [(h, .inr (0, [.ref a, .int (nI 0)])), (a, .inl (cI, 24, .inl (fun jj => nI (f0 jj)))), (o, .inr (0, [.ref b, .int (nI w)])), (b, .inl (cI, 24, .inl (fun jj => nI (r jj))))] := hD
  refine lv_aload_n hx hb dX0_becomeTurned_4 rfl (lv_at hl 1 rfl) ?_
  refine va_get (D := D) (ci := 0) (v := .int (nI w)) (C := RX0) (T := TX0) (N := 2) hx hb hts (fun w h => List.mem_cons_of_mem _ (inUX0 w h)) hown hK hP 2 rfl rfl 1 (by decide) (hts _ (List.mem_cons_of_mem _ mw_54)) (fun _ h9 => h9) rfl dX0_becomeTurned_5 ?_
  refine lv_iconst (v := nI 1) hx hb dX0_becomeTurned_8 (by decide) ?_
  refine lv_isub hx hb dX0_becomeTurned_9 ?_
  refine zz_top (y := zi w) (zi_sub w) ?_
  refine lv_istore_n (lv' := [(2, .int (zi w)), (0, .ref h), (1, .ref o)]) hx hb dX0_becomeTurned_10 rfl hl (by decide) rfl (fun ls hl => ?_)
  have hP : va_P D vwCl [(h, .inr (0, [.ref a, .int (nI (w - w))])), (a, .inl (cI, 24, .inl (fun jj => nI (f0 jj)))), (o, .inr (0, [.ref b, .int (nI w)])), (b, .inl (cI, 24, .inl (fun jj => nI (r jj))))] H := by rw [Nat.sub_self]; exact hP
  have hD : va_D A [(h, .inr (0, [.ref a, .int (nI (w - w))])), (a, .inl (cI, 24, .inl (fun jj => nI (f0 jj)))), (o, .inr (0, [.ref b, .int (nI w)])), (b, .inl (cI, 24, .inl (fun jj => nI (r jj))))] := by rw [Nat.sub_self]; exact hD
  exact k_becomeTurned_L11 l D cI cC  h a ut o b w f0 r hw hr3 hC hA hK hE _ w f0 (Nat.lt_succ_self _) (Nat.le_refl _) (fun i hi => absurd hi (by omega)) _ _ hP hD hS ls (lv_sub hl [1, 2, 0] rfl)
set_option maxHeartbeats 4000000 in
set_option maxRecDepth 100000 in
theorem k_hasRoomAt (l : Launch) (D : va_G) (cI cC : ClassId)  (h a n o b w p : Nat) (hn : n ≤ 96) (hw : w ≤ 24) (hp : p ≤ 200) (sz : Nat) : Met l yX0_hasRoomAt wsX0_hasRoomAt ({ frames := 0, cells := 0, slots := 0, locals := 0 } : Room) (zPre zE0 D vwCl [(cI, .int), (cC, .char)] [.ref h, .int (nI p), .ref o] [(h, .inr (0, [.ref a, .int (nI n)])), (o, .inr (0, [.ref b, .int (nI w)]))] sz) (va_Qi (fun (rv : Int32) (uu : Unit) => rv = zb (p + w ≤ n) ∧ True) (fun (uu : Unit) t9 => va_P D vwCl ([(h, .inr (0, [.ref a, .int (nI n)])), (o, .inr (0, [.ref b, .int (nI w)]))]) t9.heap) (va_A [(h, .inr (0, [.ref a, .int (nI n)])), (o, .inr (0, [.ref b, .int (nI w)]))] sz)) 0 0 (va_A [(h, .inr (0, [.ref a, .int (nI n)])), (o, .inr (0, [.ref b, .int (nI w)]))] sz) := by
  refine zMet (cc := cX0_hasRoomAt) (maxL := 3) (ret := (some .boolean)) (Qc := fun A => (va_Qi (fun (rv : Int32) (uu : Unit) => rv = zb (p + w ≤ n) ∧ True) (fun (uu : Unit) t9 => va_P D vwCl ([(h, .inr (0, [.ref a, .int (nI n)])), (o, .inr (0, [.ref b, .int (nI w)]))]) t9.heap) A)) (by decide) rfl (Nat.le_of_ble_eq_true rfl) ?_
  intro pr en s0 mi bl me co A hC hA hK hE H locs hP hD hS ls hl
  obtain ⟨hx, hb, hr, hml, hown, hts, hlocks, hin⟩ := id hC
  have hl : lv_has ls 3 [(0, .ref h), (1, .int (nI p)), (2, .ref o)] := hl
  refine lv_iload_n hx hb dX0_hasRoomAt_0 rfl (lv_at hl 1 rfl) ?_
  refine zz_lt0 (tgt := 21) hx hb dX0_hasRoomAt_1 (by decide) (by omega) ?_
  refine lv_iload_n hx hb dX0_hasRoomAt_4 rfl (lv_at hl 1 rfl) ?_
  refine lv_aload_n hx hb dX0_hasRoomAt_5 rfl (lv_at hl 2 rfl) ?_
  refine va_get (D := D) (ci := 0) (v := .int (nI w)) (C := RX0) (T := TX0) (N := 2) hx hb hts (fun w h => List.mem_cons_of_mem _ (inUX0 w h)) hown hK hP 1 rfl rfl 1 (by decide) (hts _ (List.mem_cons_of_mem _ mw_54)) (fun _ h9 => h9) rfl dX0_hasRoomAt_6 ?_
  refine lv_iadd hx hb dX0_hasRoomAt_9 ?_
  refine zz_top (y := nI (p + w)) (zadd (by omega)) ?_
  refine lv_aload_n hx hb dX0_hasRoomAt_10 rfl (lv_at hl 0 rfl) ?_
  refine va_get (D := D) (ci := 0) (v := .int (nI n)) (C := RX0) (T := TX0) (N := 2) hx hb hts (fun w h => List.mem_cons_of_mem _ (inUX0 w h)) hown hK hP 0 rfl rfl 1 (by decide) (hts _ (List.mem_cons_of_mem _ mw_54)) (fun _ h9 => h9) rfl dX0_hasRoomAt_11 ?_
  refine zz_gt (tgt := 21) hx hb dX0_hasRoomAt_14 (by decide) (by omega) (by omega) (fun c14 => ?_) (fun c14 => ?_)
  · skip
    refine lv_iconst (v := nI 0) hx hb dX0_hasRoomAt_21 (by decide) ?_
    exact zIret hC hS () ⟨(zb_f (by omega)).symm, trivial⟩ hP (by decide) dX0_hasRoomAt_22
  · skip
    refine lv_iconst (v := nI 1) hx hb dX0_hasRoomAt_17 (by decide) ?_
    refine lv_goto (tgt := 22) hx hb dX0_hasRoomAt_18 (by decide) ?_
    exact zIret hC hS () ⟨(zb_t (by omega)).symm, trivial⟩ hP (by decide) dX0_hasRoomAt_22
set_option maxHeartbeats 4000000 in
set_option maxRecDepth 100000 in
theorem k_mismatchesAt_L6 {pr : Program} {en : Env} {s0 : State} {mi : MethodId} {bl : List Frame} {me : Method} {co : Code} {A : Nat → Prop} (l : Launch) (D : va_G) (cI cC : ClassId)  (h a n o b w p bd : Nat) (g r : Nat → Nat) (hn : n ≤ 96) (hw : w ≤ 24) (hp : p + w ≤ n) (hbd : bd ≤ 4) (hg : ∀ i, g i ≤ 4) (hr3 : ∀ i, i < w → r i ≤ 3) (hC : zK pr s0 mi ([.ref h, .int (nI p), .ref o, .int (nI bd)] : List Value).toArray me co cX0_mismatchesAt 6 (some .int) yX0_mismatchesAt wsX0_mismatchesAt) (hA : ∀ q, s0.heap.size ≤ q → A q) (hK : va_K D vwCl [(cI, .int), (cC, .char)] s0) (hE : zE0 A s0 s0.heap) :
    ∀ (N : Nat) (i : Nat), w - i < N → (i ≤ w) → (zmm g r p i ≤ bd + 1) → ∀ (H : Heap) (locs : List Loc), va_P D vwCl [(h, .inr (0, [.ref a, .int (nI n)])), (a, .inl (cI, 96, .inl (fun jj => nI (g jj)))), (o, .inr (0, [.ref b, .int (nI w)])), (b, .inl (cI, 24, .inl (fun jj => nI (r jj))))] H → va_D A [(h, .inr (0, [.ref a, .int (nI n)])), (a, .inl (cI, 96, .inl (fun jj => nI (g jj)))), (o, .inr (0, [.ref b, .int (nI w)])), (b, .inl (cI, 24, .inl (fun jj => nI (r jj))))] → va_S A s0.heap H locs → ∀ ls : Array Slot, lv_has ls 6 [(0, .ref h), (1, .int (nI p)), (2, .ref o), (3, .int (nI bd)), (4, .int (nI (zmm g r p i))), (5, .int (nI i))] → W pr l en ({ frames := 0, cells := 0, slots := 0, locals := 0 } : Room) s0 mi ([.ref h, .int (nI p), .ref o, .int (nI bd)] : List Value).toArray bl me co H locs 0 0 (MQ bl (va_Qi (fun (rv : Int32) (uu : Unit) => rv = nI (min (zmm g r p w) (bd + 1)) ∧ True) (fun (uu : Unit) t9 => va_P D vwCl ([(h, .inr (0, [.ref a, .int (nI n)])), (a, .inl (cI, 96, .inl (fun jj => nI (g jj)))), (o, .inr (0, [.ref b, .int (nI w)])), (b, .inl (cI, 24, .inl (fun jj => nI (r jj))))]) t9.heap) A) ([.ref h, .int (nI p), .ref o, .int (nI bd)] : List Value).toArray s0 0 0 A) (F0 mi 6 ls []) := by
  obtain ⟨hx, hb, hr, hml, hown, hts, hlocks, hin⟩ := id hC
  intro N
  induction N with
  | zero =>
    intro i hmea
    omega
  | succ N ih =>
    intro i hmea hi hk H locs hP hD hS ls hl
    refine lv_iload hx hb dX0_mismatchesAt_6 (lv_at hl 5 rfl) ?_
    refine lv_aload_n hx hb dX0_mismatchesAt_8 rfl (lv_at hl 2 rfl) ?_
    refine va_get (D := D) (ci := 0) (v := .int (nI w)) (C := RX0) (T := TX0) (N := 2) hx hb hts (fun w h => List.mem_cons_of_mem _ (inUX0 w h)) hown hK hP 2 rfl rfl 1 (by decide) (hts _ (List.mem_cons_of_mem _ mw_54)) (fun _ h9 => h9) rfl dX0_mismatchesAt_9 ?_
    refine zz_ge (tgt := 49) hx hb dX0_mismatchesAt_12 (by decide) (by omega) (by omega) (fun c12 => ?_) (fun c12 => ?_)
    · skip
      refine lv_iload hx hb dX0_mismatchesAt_49 (lv_at hl 4 rfl) ?_
      exact zIret hC hS () ⟨congrArg nI (by first | (rw [← show i = w by omega]; omega) | (have hm := zmm_mono g r p hi; omega)), trivial⟩ hP (vp_nar_int _) dX0_mismatchesAt_51
    · skip
      refine lv_iload hx hb dX0_mismatchesAt_15 (lv_at hl 4 rfl) ?_
      refine lv_iload_n hx hb dX0_mismatchesAt_17 rfl (lv_at hl 3 rfl) ?_
      refine zz_gt (tgt := 49) hx hb dX0_mismatchesAt_18 (by decide) (by omega) (by omega) (fun c18 => ?_) (fun c18 => ?_)
      · skip
        refine lv_iload hx hb dX0_mismatchesAt_49 (lv_at hl 4 rfl) ?_
        exact zIret hC hS () ⟨congrArg nI (by first | (rw [← show i = w by omega]; omega) | (have hm := zmm_mono g r p hi; omega)), trivial⟩ hP (vp_nar_int _) dX0_mismatchesAt_51
      · skip
        refine lv_aload_n hx hb dX0_mismatchesAt_21 rfl (lv_at hl 0 rfl) ?_
        refine va_get (D := D) (ci := 0) (v := .ref a) (C := RX0) (T := TX0) (N := 2) hx hb hts (fun w h => List.mem_cons_of_mem _ (inUX0 w h)) hown hK hP 0 rfl rfl 0 (by decide) (hts _ (List.mem_cons_of_mem _ mw_51)) (fun _ h9 => h9) rfl dX0_mismatchesAt_22 ?_
        refine lv_iload_n hx hb dX0_mismatchesAt_25 rfl (lv_at hl 1 rfl) ?_
        refine lv_iload hx hb dX0_mismatchesAt_26 (lv_at hl 5 rfl) ?_
        refine lv_iadd hx hb dX0_mismatchesAt_28 ?_
        refine zz_top (y := nI (p + i)) (zadd (by omega)) ?_
        refine zz_iald (k := p + i) (f := g) hx hb hK hP 1 0 rfl rfl (by omega) (by omega) dX0_mismatchesAt_29 ?_
        refine lv_aload_n hx hb dX0_mismatchesAt_30 rfl (lv_at hl 2 rfl) ?_
        refine va_get (D := D) (ci := 0) (v := .ref b) (C := RX0) (T := TX0) (N := 2) hx hb hts (fun w h => List.mem_cons_of_mem _ (inUX0 w h)) hown hK hP 2 rfl rfl 0 (by decide) (hts _ (List.mem_cons_of_mem _ mw_51)) (fun _ h9 => h9) rfl dX0_mismatchesAt_31 ?_
        refine lv_iload hx hb dX0_mismatchesAt_34 (lv_at hl 5 rfl) ?_
        refine zz_iald (k := i) (f := r) hx hb hK hP 3 0 rfl rfl (by omega) (by omega) dX0_mismatchesAt_36 ?_
        refine zz_eq (tgt := 43) hx hb dX0_mismatchesAt_37 (by decide) (by have := hg (p + i); omega) (by have := hr3 i (by omega); omega) (fun c37 => ?_) (fun c37 => ?_)
        · skip
          refine lv_iinc (v := nI (i + 1)) (lv' := [(5, .int (nI (i + 1))), (0, .ref h), (1, .int (nI p)), (2, .ref o), (3, .int (nI bd)), (4, .int (nI (zmm g r p i)))]) hx hb dX0_mismatchesAt_43 hl (k := 5) rfl (zincE (by omega)) (by decide) rfl (fun ls hl => ?_)
          refine lv_goto (tgt := 6) hx hb dX0_mismatchesAt_46 (by decide) ?_
          have hl : lv_has ls 6 [(5, .int (nI (i + 1))), (0, .ref h), (1, .int (nI p)), (2, .ref o), (3, .int (nI bd)), (4, .int (nI (zmm g r p (i + 1))))] := by rw [zmm_f c37]; exact hl
          exact ih (i + 1) (by omega) (by omega) (by first | (rw [zmm_f c37]; omega) | (rw [zmm_t c37]; omega)) _ _ hP hD hS ls (lv_sub hl [1, 2, 3, 4, 5, 0] rfl)
        · skip
          refine lv_iinc (v := nI (zmm g r p i + 1)) (lv' := [(4, .int (nI (zmm g r p i + 1))), (0, .ref h), (1, .int (nI p)), (2, .ref o), (3, .int (nI bd)), (5, .int (nI i))]) hx hb dX0_mismatchesAt_40 hl (k := 4) rfl (zincE (by omega)) (by decide) rfl (fun ls hl => ?_)
          refine lv_iinc (v := nI (i + 1)) (lv' := [(5, .int (nI (i + 1))), (4, .int (nI (zmm g r p i + 1))), (0, .ref h), (1, .int (nI p)), (2, .ref o), (3, .int (nI bd))]) hx hb dX0_mismatchesAt_43 hl (k := 5) rfl (zincE (by omega)) (by decide) rfl (fun ls hl => ?_)
          refine lv_goto (tgt := 6) hx hb dX0_mismatchesAt_46 (by decide) ?_
          have hl : lv_has ls 6 [(5, .int (nI (i + 1))), (4, .int (nI (zmm g r p (i + 1)))), (0, .ref h), (1, .int (nI p)), (2, .ref o), (3, .int (nI bd))] := by rw [zmm_t c37]; exact hl
          exact ih (i + 1) (by omega) (by omega) (by first | (rw [zmm_f c37]; omega) | (rw [zmm_t c37]; omega)) _ _ hP hD hS ls (lv_sub hl [2, 3, 4, 5, 1, 0] rfl)
set_option maxHeartbeats 4000000 in
set_option maxRecDepth 100000 in
theorem k_mismatchesAt (l : Launch) (D : va_G) (cI cC : ClassId)  (h a n o b w p bd : Nat) (g r : Nat → Nat) (hn : n ≤ 96) (hw : w ≤ 24) (hp : p + w ≤ n) (hbd : bd ≤ 4) (hg : ∀ i, g i ≤ 4) (hr3 : ∀ i, i < w → r i ≤ 3) (sz : Nat) : Met l yX0_mismatchesAt wsX0_mismatchesAt ({ frames := 0, cells := 0, slots := 0, locals := 0 } : Room) (zPre zE0 D vwCl [(cI, .int), (cC, .char)] [.ref h, .int (nI p), .ref o, .int (nI bd)] [(h, .inr (0, [.ref a, .int (nI n)])), (a, .inl (cI, 96, .inl (fun jj => nI (g jj)))), (o, .inr (0, [.ref b, .int (nI w)])), (b, .inl (cI, 24, .inl (fun jj => nI (r jj))))] sz) (va_Qi (fun (rv : Int32) (uu : Unit) => rv = nI (min (zmm g r p w) (bd + 1)) ∧ True) (fun (uu : Unit) t9 => va_P D vwCl ([(h, .inr (0, [.ref a, .int (nI n)])), (a, .inl (cI, 96, .inl (fun jj => nI (g jj)))), (o, .inr (0, [.ref b, .int (nI w)])), (b, .inl (cI, 24, .inl (fun jj => nI (r jj))))]) t9.heap) (va_A [(h, .inr (0, [.ref a, .int (nI n)])), (a, .inl (cI, 96, .inl (fun jj => nI (g jj)))), (o, .inr (0, [.ref b, .int (nI w)])), (b, .inl (cI, 24, .inl (fun jj => nI (r jj))))] sz)) 0 0 (va_A [(h, .inr (0, [.ref a, .int (nI n)])), (a, .inl (cI, 96, .inl (fun jj => nI (g jj)))), (o, .inr (0, [.ref b, .int (nI w)])), (b, .inl (cI, 24, .inl (fun jj => nI (r jj))))] sz) := by
  refine zMet (cc := cX0_mismatchesAt) (maxL := 6) (ret := (some .int)) (Qc := fun A => (va_Qi (fun (rv : Int32) (uu : Unit) => rv = nI (min (zmm g r p w) (bd + 1)) ∧ True) (fun (uu : Unit) t9 => va_P D vwCl ([(h, .inr (0, [.ref a, .int (nI n)])), (a, .inl (cI, 96, .inl (fun jj => nI (g jj)))), (o, .inr (0, [.ref b, .int (nI w)])), (b, .inl (cI, 24, .inl (fun jj => nI (r jj))))]) t9.heap) A)) (by decide) rfl (Nat.le_of_ble_eq_true rfl) ?_
  intro pr en s0 mi bl me co A hC hA hK hE H locs hP hD hS ls hl
  obtain ⟨hx, hb, hr, hml, hown, hts, hlocks, hin⟩ := id hC
  have hl : lv_has ls 6 [(0, .ref h), (1, .int (nI p)), (2, .ref o), (3, .int (nI bd))] := hl
  refine lv_iconst (v := nI 0) hx hb dX0_mismatchesAt_0 (by decide) ?_
  refine lv_istore (lv' := [(4, .int (nI 0)), (0, .ref h), (1, .int (nI p)), (2, .ref o), (3, .int (nI bd))]) hx hb dX0_mismatchesAt_1 hl (by decide) rfl (fun ls hl => ?_)
  refine lv_iconst (v := nI 0) hx hb dX0_mismatchesAt_3 (by decide) ?_
  refine lv_istore (lv' := [(5, .int (nI 0)), (4, .int (nI 0)), (0, .ref h), (1, .int (nI p)), (2, .ref o), (3, .int (nI bd))]) hx hb dX0_mismatchesAt_4 hl (by decide) rfl (fun ls hl => ?_)
  exact k_mismatchesAt_L6 l D cI cC  h a n o b w p bd g r hn hw hp hbd hg hr3 hC hA hK hE _ 0 (Nat.lt_succ_self _) (Nat.zero_le _) (Nat.zero_le _) _ _ hP hD hS ls (lv_sub hl [2, 3, 4, 5, 1, 0] rfl)
set_option maxHeartbeats 4000000 in
set_option maxRecDepth 100000 in
theorem k_holdsAt (l : Launch) (D : va_G) (cI cC : ClassId)  (h a n o b w p : Nat) (g r : Nat → Nat) (hn : n ≤ 96) (hw : w ≤ 24) (hp : p ≤ 200) (hg : ∀ i, g i ≤ 4) (hr3 : ∀ i, i < w → r i ≤ 3) (sz : Nat) : Met l yX0_holdsAt wsX0_holdsAt ({ frames := 1, cells := 0, slots := 0, locals := 25 } : Room) (zPre zE0 D vwCl [(cI, .int), (cC, .char)] [.ref h, .int (nI p), .ref o] [(h, .inr (0, [.ref a, .int (nI n)])), (a, .inl (cI, 96, .inl (fun jj => nI (g jj)))), (o, .inr (0, [.ref b, .int (nI w)])), (b, .inl (cI, 24, .inl (fun jj => nI (r jj))))] sz) (va_Qi (fun (rv : Int32) (uu : Unit) => rv = zb (p + w ≤ n ∧ zmm g r p w = 0) ∧ True) (fun (uu : Unit) t9 => va_P D vwCl ([(h, .inr (0, [.ref a, .int (nI n)])), (a, .inl (cI, 96, .inl (fun jj => nI (g jj)))), (o, .inr (0, [.ref b, .int (nI w)])), (b, .inl (cI, 24, .inl (fun jj => nI (r jj))))]) t9.heap) (va_A [(h, .inr (0, [.ref a, .int (nI n)])), (a, .inl (cI, 96, .inl (fun jj => nI (g jj)))), (o, .inr (0, [.ref b, .int (nI w)])), (b, .inl (cI, 24, .inl (fun jj => nI (r jj))))] sz)) 0 0 (va_A [(h, .inr (0, [.ref a, .int (nI n)])), (a, .inl (cI, 96, .inl (fun jj => nI (g jj)))), (o, .inr (0, [.ref b, .int (nI w)])), (b, .inl (cI, 24, .inl (fun jj => nI (r jj))))] sz) := by
  refine zMet (cc := cX0_holdsAt) (maxL := 3) (ret := (some .boolean)) (Qc := fun A => (va_Qi (fun (rv : Int32) (uu : Unit) => rv = zb (p + w ≤ n ∧ zmm g r p w = 0) ∧ True) (fun (uu : Unit) t9 => va_P D vwCl ([(h, .inr (0, [.ref a, .int (nI n)])), (a, .inl (cI, 96, .inl (fun jj => nI (g jj)))), (o, .inr (0, [.ref b, .int (nI w)])), (b, .inl (cI, 24, .inl (fun jj => nI (r jj))))]) t9.heap) A)) (by decide) rfl (Nat.le_of_ble_eq_true rfl) ?_
  intro pr en s0 mi bl me co A hC hA hK hE H locs hP hD hS ls hl
  obtain ⟨hx, hb, hr, hml, hown, hts, hlocks, hin⟩ := id hC
  have hl : lv_has ls 3 [(0, .ref h), (1, .int (nI p)), (2, .ref o)] := hl
  refine lv_aload_n hx hb dX0_holdsAt_0 rfl (lv_at hl 0 rfl) ?_
  refine lv_iload_n hx hb dX0_holdsAt_1 rfl (lv_at hl 1 rfl) ?_
  refine lv_aload_n hx hb dX0_holdsAt_2 rfl (lv_at hl 2 rfl) ?_
  refine zCi (is := [0, 2]) (wf := (fun (uu : Unit) => ([(h, .inr (0, [.ref a, .int (nI n)])), (o, .inr (0, [.ref b, .int (nI w)]))] : va_W))) (va_runV (As := [.int (nI p), .ref o]) (rest := []) ⟨hx, hb, hml, hown, hts⟩ (k_hasRoomAt l D cI cC  h a n o b w p (by omega) (by omega) (by omega) H.size) (cwV 2 hts (zgood mw_269 mw_270 mw_271 mw_27 mw_272) rfl rfl rfl (by decide +kernel) ⟨Nat.le_of_ble_eq_true rfl, Nat.le_of_ble_eq_true rfl⟩) ⟨zBlind zE0_ok, va_recv hK hP (ci := 0) (q0 := 0) rfl rfl, zAt (av := [.ref h, .int (nI p), .ref o]) zE0_ok hP hD hK hS hA trivial [0, 2] rfl (by decide)⟩ rfl rfl hl.1 rfl (lv_room (Nat.le_of_ble_eq_true rfl)) dX0_holdsAt_3 ⟨Nat.zero_le _, Nat.zero_le _⟩) hP hD hS hA rfl (fun _ => rfl) (fun r3 u3 H locs w3 hP hD hS => ?_)
  obtain ⟨rfl, w3⟩ := w3
  have hP : va_P D vwCl [(h, .inr (0, [.ref a, .int (nI n)])), (a, .inl (cI, 96, .inl (fun jj => nI (g jj)))), (o, .inr (0, [.ref b, .int (nI w)])), (b, .inl (cI, 24, .inl (fun jj => nI (r jj))))] H := hP
  have hD : va_D A [(h, .inr (0, [.ref a, .int (nI n)])), (a, .inl (cI, 96, .inl (fun jj => nI (g jj)))), (o, .inr (0, [.ref b, .int (nI w)])), (b, .inl (cI, 24, .inl (fun jj => nI (r jj))))] := hD
  refine zz_eqb (tgt := 23) hx hb dX0_holdsAt_6 (by decide) (fun c6 => ?_) (fun c6 => ?_)
  · skip
    refine lv_iconst (v := nI 0) hx hb dX0_holdsAt_23 (by decide) ?_
    exact zIret hC hS () ⟨(zb_f (by omega)).symm, trivial⟩ hP (by decide) dX0_holdsAt_24
  · skip
    refine lv_aload_n hx hb dX0_holdsAt_9 rfl (lv_at hl 0 rfl) ?_
    refine lv_iload_n hx hb dX0_holdsAt_10 rfl (lv_at hl 1 rfl) ?_
    refine lv_aload_n hx hb dX0_holdsAt_11 rfl (lv_at hl 2 rfl) ?_
    refine lv_iconst (v := nI 0) hx hb dX0_holdsAt_12 (by decide) ?_
    refine zCi (is := [0, 1, 2, 3]) (wf := (fun (uu : Unit) => ([(h, .inr (0, [.ref a, .int (nI n)])), (a, .inl (cI, 96, .inl (fun jj => nI (g jj)))), (o, .inr (0, [.ref b, .int (nI w)])), (b, .inl (cI, 24, .inl (fun jj => nI (r jj))))] : va_W))) (va_runV (As := [.int (nI p), .ref o, .int (nI 0)]) (rest := []) ⟨hx, hb, hml, hown, hts⟩ (k_mismatchesAt l D cI cC  h a n o b w p 0 g r (by omega) (by omega) (by omega) (by omega) hg hr3 H.size) (cwV 3 hts (zgood mw_273 mw_274 mw_275 mw_27 mw_276) rfl rfl rfl (by decide +kernel) ⟨Nat.le_of_ble_eq_true rfl, Nat.le_of_ble_eq_true rfl⟩) ⟨zBlind zE0_ok, va_recv hK hP (ci := 0) (q0 := 0) rfl rfl, zAt (av := [.ref h, .int (nI p), .ref o, .int (nI 0)]) zE0_ok hP hD hK hS hA trivial [0, 1, 2, 3] rfl (by decide)⟩ rfl rfl hl.1 rfl (lv_room (Nat.le_of_ble_eq_true rfl)) dX0_holdsAt_13 ⟨Nat.zero_le _, Nat.zero_le _⟩) hP hD hS hA rfl (fun _ => rfl) (fun r13 u13 H locs w13 hP hD hS => ?_)
    obtain ⟨rfl, w13⟩ := w13
    have hP : va_P D vwCl [(h, .inr (0, [.ref a, .int (nI n)])), (a, .inl (cI, 96, .inl (fun jj => nI (g jj)))), (o, .inr (0, [.ref b, .int (nI w)])), (b, .inl (cI, 24, .inl (fun jj => nI (r jj))))] H := hP
    have hD : va_D A [(h, .inr (0, [.ref a, .int (nI n)])), (a, .inl (cI, 96, .inl (fun jj => nI (g jj)))), (o, .inr (0, [.ref b, .int (nI w)])), (b, .inl (cI, 24, .inl (fun jj => nI (r jj))))] := hD
    refine zz_ne0 (tgt := 23) hx hb dX0_holdsAt_16 (by decide) (by omega) (fun c16 => ?_) (fun c16 => ?_)
    · skip
      refine lv_iconst (v := nI 0) hx hb dX0_holdsAt_23 (by decide) ?_
      exact zIret hC hS () ⟨(zb_f (by omega)).symm, trivial⟩ hP (by decide) dX0_holdsAt_24
    · skip
      refine lv_iconst (v := nI 1) hx hb dX0_holdsAt_19 (by decide) ?_
      refine lv_goto (tgt := 24) hx hb dX0_holdsAt_20 (by decide) ?_
      exact zIret hC hS () ⟨(zb_t (by omega)).symm, trivial⟩ hP (by decide) dX0_holdsAt_24
