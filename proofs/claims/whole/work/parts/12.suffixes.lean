set_option maxHeartbeats 4000000 in
set_option maxRecDepth 100000 in
theorem k_forget (l : Launch) (D : va_G) (cI cC : ClassId)  (h G ro od so : Nat)  (sz : Nat) : Met l yX4_forget wsX4_forget ({ frames := 0, cells := 0, slots := 0, locals := 0 } : Room) (zPre zE0 D vwCl [(cI, .int), (cC, .char)] [.ref h] [(h, .inr (4, [.ref G, .ref ro, .ref od, .int (nI so)]))] sz) (va_Qv (fun (uu : Unit) => True) (fun (uu : Unit) t9 => va_P D vwCl ([(h, .inr (4, [.ref G, .ref ro, .ref od, .int (nI 0)]))]) t9.heap) (va_A [(h, .inr (4, [.ref G, .ref ro, .ref od, .int (nI so)]))] sz)) 0 0 (va_A [(h, .inr (4, [.ref G, .ref ro, .ref od, .int (nI so)]))] sz) := by
  refine zMet (cc := cX4_forget) (maxL := 1) (ret := none) (Qc := fun A => (va_Qv (fun (uu : Unit) => True) (fun (uu : Unit) t9 => va_P D vwCl ([(h, .inr (4, [.ref G, .ref ro, .ref od, .int (nI 0)]))]) t9.heap) A)) (by decide) rfl (Nat.le_of_ble_eq_true rfl) ?_
  intro pr en s0 mi bl me co A hC hA hK hE H locs hP hD hS ls hl
  obtain ⟨hx, hb, hr, hml, hown, hts, hlocks, hin⟩ := id hC
  have hl : lv_has ls 1 [(0, .ref h)] := hl
  refine lv_aload_n hx hb dX4_forget_0 rfl (lv_at hl 0 rfl) ?_
  refine lv_iconst (v := nI 0) hx hb dX4_forget_1 (by decide) ?_
  refine va_put (D := D) (ci := 4) (v := .int (nI 0)) (ty := .boolean) (C := RX4) (T := TX4) (N := 4) hx hb hts (fun w h => List.mem_cons_of_mem _ (inUX4 w h)) tyX4 tyX4_ok nmX4 hown hK hP hD hS 0 rfl rfl 3 (by decide) (hts _ (List.mem_cons_of_mem _ mw_74)) (fun _ h9 => h9) rfl (by decide +kernel) (by decide) (by decide) (Nat.le_of_ble_eq_true rfl) dX4_forget_2 (fun H locs hP hD hS => ?_)
  have hP : va_P D vwCl [(h, .inr (4, [.ref G, .ref ro, .ref od, .int (nI 0)]))] H := hP
  have hD : va_D A [(h, .inr (4, [.ref G, .ref ro, .ref od, .int (nI 0)]))] := hD
  exact zVret hC hS () trivial hP dX4_forget_5
set_option maxHeartbeats 4000000 in
set_option maxRecDepth 100000 in
theorem k_rows (l : Launch) (D : va_G) (cI cC : ClassId)  (h G ro od so ga n : Nat) (hn : n ≤ 96) (sz : Nat) : Met l yX4_rows wsX4_rows ({ frames := 0, cells := 0, slots := 0, locals := 0 } : Room) (zPre zEn D vwCl [(cI, .int), (cC, .char)] [.ref h] [(h, .inr (4, [.ref G, .ref ro, .ref od, .int (nI so)])), (G, .inr (0, [.ref ga, .int (nI n)]))] sz) (va_Qi (fun (rv : Int32) (uu : Unit) => rv = nI (n + 1) ∧ True) (fun (uu : Unit) t9 => va_P D vwCl ([(h, .inr (4, [.ref G, .ref ro, .ref od, .int (nI so)])), (G, .inr (0, [.ref ga, .int (nI n)]))]) t9.heap) (va_A [(h, .inr (4, [.ref G, .ref ro, .ref od, .int (nI so)])), (G, .inr (0, [.ref ga, .int (nI n)]))] sz)) 0 0 (va_A [(h, .inr (4, [.ref G, .ref ro, .ref od, .int (nI so)])), (G, .inr (0, [.ref ga, .int (nI n)]))] sz) := by
  refine zMet (cc := cX4_rows) (maxL := 1) (ret := (some .int)) (Qc := fun A => (va_Qi (fun (rv : Int32) (uu : Unit) => rv = nI (n + 1) ∧ True) (fun (uu : Unit) t9 => va_P D vwCl ([(h, .inr (4, [.ref G, .ref ro, .ref od, .int (nI so)])), (G, .inr (0, [.ref ga, .int (nI n)]))]) t9.heap) A)) (by decide) rfl (Nat.le_of_ble_eq_true rfl) ?_
  intro pr en s0 mi bl me co A hC hA hK hE H locs hP hD hS ls hl
  obtain ⟨hx, hb, hr, hml, hown, hts, hlocks, hin⟩ := id hC
  have hl : lv_has ls 1 [(0, .ref h)] := hl
  refine lv_aload_n hx hb dX4_rows_0 rfl (lv_at hl 0 rfl) ?_
  refine va_get (D := D) (ci := 4) (v := .ref G) (C := RX4) (T := TX4) (N := 4) hx hb hts (fun w h => List.mem_cons_of_mem _ (inUX4 w h)) hown hK hP 0 rfl rfl 0 (by decide) (hts _ (List.mem_cons_of_mem _ mw_71)) (fun _ h9 => h9) rfl dX4_rows_1 ?_
  refine va_getN (D := D) (ci := 0) (v := .int (nI n)) (C := RX0) (T := TX0) (N := 2) hx hb hts (fun w h => List.mem_cons_of_mem _ (inUX0 w h)) hown hK hP 1 rfl rfl 1 (by decide) (va_Nw.use rfl (hE.1 ("StrandMapper$SortedSuffixes", 26, "StrandMapper$Bases", "used", "I", "StrandMapper") (by decide +kernel))) (fun _ h9 => h9) rfl dX4_rows_4 ?_
  refine lv_iconst (v := nI 1) hx hb dX4_rows_7 (by decide) ?_
  refine lv_iadd hx hb dX4_rows_8 ?_
  refine zz_top (y := nI (n + 1)) (zadd (by omega)) ?_
  exact zIret hC hS () ⟨rfl, trivial⟩ hP (vp_nar_int _) dX4_rows_9
set_option maxHeartbeats 4000000 in
set_option maxRecDepth 100000 in
theorem k_hasRow (l : Launch) (D : va_G) (cI cC : ClassId)  (h G ro od so ga n : Nat) (i : Int32) (hn : n ≤ 96) (sz : Nat) : Met l yX4_hasRow wsX4_hasRow ({ frames := 1, cells := 0, slots := 0, locals := 20 } : Room) (zPre zEn D vwCl [(cI, .int), (cC, .char)] [.ref h, .int i] [(h, .inr (4, [.ref G, .ref ro, .ref od, .int (nI so)])), (G, .inr (0, [.ref ga, .int (nI n)]))] sz) (va_Qi (fun (rv : Int32) (uu : Unit) => rv = zb (0 ≤ i ∧ i < nI (n + 1)) ∧ True) (fun (uu : Unit) t9 => va_P D vwCl ([(h, .inr (4, [.ref G, .ref ro, .ref od, .int (nI so)])), (G, .inr (0, [.ref ga, .int (nI n)]))]) t9.heap) (va_A [(h, .inr (4, [.ref G, .ref ro, .ref od, .int (nI so)])), (G, .inr (0, [.ref ga, .int (nI n)]))] sz)) 0 0 (va_A [(h, .inr (4, [.ref G, .ref ro, .ref od, .int (nI so)])), (G, .inr (0, [.ref ga, .int (nI n)]))] sz) := by
  refine zMet (cc := cX4_hasRow) (maxL := 2) (ret := (some .boolean)) (Qc := fun A => (va_Qi (fun (rv : Int32) (uu : Unit) => rv = zb (0 ≤ i ∧ i < nI (n + 1)) ∧ True) (fun (uu : Unit) t9 => va_P D vwCl ([(h, .inr (4, [.ref G, .ref ro, .ref od, .int (nI so)])), (G, .inr (0, [.ref ga, .int (nI n)]))]) t9.heap) A)) (by decide) rfl (Nat.le_of_ble_eq_true rfl) ?_
  intro pr en s0 mi bl me co A hC hA hK hE H locs hP hD hS ls hl
  obtain ⟨hx, hb, hr, hml, hown, hts, hlocks, hin⟩ := id hC
  have hl : lv_has ls 2 [(0, .ref h), (1, .int i)] := hl
  refine lv_iload_n hx hb dX4_hasRow_0 rfl (lv_at hl 1 rfl) ?_
  refine lv_if_lt (tgt := 16) hx hb dX4_hasRow_1 (by decide) (fun c1 => ?_) (fun c1 => ?_)
  · skip
    refine lv_iconst (v := nI 0) hx hb dX4_hasRow_16 (by decide) ?_
    exact zIret hC hS () ⟨(zb_f (by first | exact fun q => absurd c1 (Int32.not_lt.mpr q.1) | exact fun q => absurd q.2 (Int32.not_lt.mpr c9))).symm, trivial⟩ hP (by decide) dX4_hasRow_17
  · skip
    refine lv_iload_n hx hb dX4_hasRow_4 rfl (lv_at hl 1 rfl) ?_
    refine lv_aload_n hx hb dX4_hasRow_5 rfl (lv_at hl 0 rfl) ?_
    refine zCi (is := [0, 1]) (wf := (fun (uu : Unit) => ([(h, .inr (4, [.ref G, .ref ro, .ref od, .int (nI so)])), (G, .inr (0, [.ref ga, .int (nI n)]))] : va_W))) (va_runV (As := []) (rest := [.int i]) ⟨hx, hb, hml, hown, hts⟩ (k_rows l D cI cC  h G ro od so ga n (by omega) H.size) (cwV 0 hts (zgood mw_231 mw_232 mw_233 mw_28 mw_234) rfl rfl rfl (by decide +kernel) ⟨Nat.le_of_ble_eq_true rfl, Nat.le_of_ble_eq_true rfl⟩) ⟨zBlind zEn_ok, va_recv hK hP (ci := 4) (q0 := 0) rfl rfl, zAt (av := [.ref h]) zEn_ok hP hD hK hS hA hE [0, 1] rfl (by decide)⟩ rfl rfl hl.1 rfl (lv_room (Nat.le_of_ble_eq_true rfl)) dX4_hasRow_6 ⟨Nat.zero_le _, Nat.zero_le _⟩) hP hD hS hA rfl (fun _ => rfl) (fun r6 u6 H locs w6 hP hD hS => ?_)
    obtain ⟨rfl, w6⟩ := w6
    have hP : va_P D vwCl [(h, .inr (4, [.ref G, .ref ro, .ref od, .int (nI so)])), (G, .inr (0, [.ref ga, .int (nI n)]))] H := hP
    have hD : va_D A [(h, .inr (4, [.ref G, .ref ro, .ref od, .int (nI so)])), (G, .inr (0, [.ref ga, .int (nI n)]))] := hD
    refine lv_icmp_ge (tgt := 16) hx hb dX4_hasRow_9 (by decide) (fun c9 => ?_) (fun c9 => ?_)
    · skip
      refine lv_iconst (v := nI 0) hx hb dX4_hasRow_16 (by decide) ?_
      exact zIret hC hS () ⟨(zb_f (by first | exact fun q => absurd c1 (Int32.not_lt.mpr q.1) | exact fun q => absurd q.2 (Int32.not_lt.mpr c9))).symm, trivial⟩ hP (by decide) dX4_hasRow_17
    · skip
      refine lv_iconst (v := nI 1) hx hb dX4_hasRow_12 (by decide) ?_
      refine lv_goto (tgt := 17) hx hb dX4_hasRow_13 (by decide) ?_
      exact zIret hC hS () ⟨(zb_t ⟨Int32.not_lt.mp c1, Int32.not_le.mp c9⟩).symm, trivial⟩ hP (by decide) dX4_hasRow_17
set_option maxHeartbeats 4000000 in
set_option maxRecDepth 100000 in
theorem k_insert_L27 {pr : Program} {en : Env} {s0 : State} {mi : MethodId} {bl : List Frame} {me : Method} {co : Code} {A : Nat → Prop} (l : Launch) (D : va_G) (cI cC : ClassId)  (h G ro od so ga n : Nat) (p : Nat) (g f0 : Nat → Nat) (hn : n ≤ 96) (hp : p < n) (hg : ∀ i, g i ≤ 4) (hf : ∀ q, p + 1 ≤ q → q ≤ n → f0 q = zB n g (p + 1) q) (hC : zK pr s0 mi ([.ref h, .int (nI p)] : List Value).toArray me co cX4_insert 8 none yX4_insert wsX4_insert) (hA : ∀ q, s0.heap.size ≤ q → A q) (hK : va_K D vwCl [(cI, .int), (cC, .char)] s0) (hE : zEn A s0 s0.heap) :
    ∀ (N : Nat) (k row : Nat) (f : Nat → Nat), n - k < N → (p + 1 ≤ k) → (k ≤ n) → (row = 1 + zcnt (fun q => decide (p + 1 ≤ q ∧ zkey n g q < zkey n g p)) k) → (∀ q, k ≤ q → q ≤ n → f q = zB n g (p + 1) q) → (∀ q, p + 1 ≤ q → q < k → f q = zB n g p q) → ∀ (H : Heap) (locs : List Loc), va_P D vwCl [(h, .inr (4, [.ref G, .ref ro, .ref od, .int (nI so)])), (G, .inr (0, [.ref ga, .int (nI n)])), (ga, .inl (cI, 96, .inl (fun jj => nI (g jj)))), (ro, .inl (cI, 97, .inl (fun jj => nI (f jj))))] H → va_D A [(h, .inr (4, [.ref G, .ref ro, .ref od, .int (nI so)])), (G, .inr (0, [.ref ga, .int (nI n)])), (ga, .inl (cI, 96, .inl (fun jj => nI (g jj)))), (ro, .inl (cI, 97, .inl (fun jj => nI (f jj))))] → va_S A s0.heap H locs → ∀ ls : Array Slot, lv_has ls 8 [(0, .ref h), (1, .int (nI p)), (2, .int (nI (g p))), (3, .int (nI (f0 (p + 1)))), (4, .int (nI row)), (5, .int (nI k))] → W pr l en ({ frames := 0, cells := 0, slots := 0, locals := 0 } : Room) s0 mi ([.ref h, .int (nI p)] : List Value).toArray bl me co H locs 0 0 (MQ bl (va_Qv (fun (uu : Nat → Nat) => ∀ q, p ≤ q → q ≤ n → uu q = zB n g p q) (fun (uu : Nat → Nat) t9 => va_P D vwCl ([(h, .inr (4, [.ref G, .ref ro, .ref od, .int (nI so)])), (G, .inr (0, [.ref ga, .int (nI n)])), (ga, .inl (cI, 96, .inl (fun jj => nI (g jj)))), (ro, .inl (cI, 97, .inl (fun jj => nI (uu jj))))]) t9.heap) A) ([.ref h, .int (nI p)] : List Value).toArray s0 0 0 A) (F0 mi 27 ls []) := by
  obtain ⟨hx, hb, hr, hml, hown, hts, hlocks, hin⟩ := id hC
  intro N
  induction N with
  | zero =>
    intro k row f hmea
    omega
  | succ N ih =>
    intro k row f hmea hk1 hk2 hrow ha hd H locs hP hD hS ls hl
    refine lv_iload hx hb dX4_insert_27 (lv_at hl 5 rfl) ?_
    refine lv_aload_n hx hb dX4_insert_29 rfl (lv_at hl 0 rfl) ?_
    refine va_get (D := D) (ci := 4) (v := .ref G) (C := RX4) (T := TX4) (N := 4) hx hb hts (fun w h => List.mem_cons_of_mem _ (inUX4 w h)) hown hK hP 0 rfl rfl 0 (by decide) (hts _ (List.mem_cons_of_mem _ mw_71)) (fun _ h9 => h9) rfl dX4_insert_30 ?_
    refine va_getN (D := D) (ci := 0) (v := .int (nI n)) (C := RX0) (T := TX0) (N := 2) hx hb hts (fun w h => List.mem_cons_of_mem _ (inUX0 w h)) hown hK hP 1 rfl rfl 1 (by decide) (va_Nw.use rfl (hE.1 ("StrandMapper$SortedSuffixes", 26, "StrandMapper$Bases", "used", "I", "StrandMapper") (by decide +kernel))) (fun _ h9 => h9) rfl dX4_insert_33 ?_
    refine zz_ge (tgt := 111) hx hb dX4_insert_36 (by decide) (by omega) (by omega) (fun c36 => ?_) (fun c36 => ?_)
    · skip
      refine lv_aload_n hx hb dX4_insert_111 rfl (lv_at hl 0 rfl) ?_
      refine va_get (D := D) (ci := 4) (v := .ref ro) (C := RX4) (T := TX4) (N := 4) hx hb hts (fun w h => List.mem_cons_of_mem _ (inUX4 w h)) hown hK hP 0 rfl rfl 1 (by decide) (hts _ (List.mem_cons_of_mem _ mw_72)) (fun _ h9 => h9) rfl dX4_insert_112 ?_
      refine lv_iload_n hx hb dX4_insert_115 rfl (lv_at hl 1 rfl) ?_
      refine lv_iload hx hb dX4_insert_116 (lv_at hl 4 rfl) ?_
      refine zz_iast (k := p) (x := row) (f := f) hx hb hK hP hD hS 3 0 rfl rfl (by omega) (by omega) dX4_insert_118 (fun H locs hP hD hS => ?_)
      have hP : va_P D vwCl [(h, .inr (4, [.ref G, .ref ro, .ref od, .int (nI so)])), (G, .inr (0, [.ref ga, .int (nI n)])), (ga, .inl (cI, 96, .inl (fun jj => nI (g jj)))), (ro, .inl (cI, 97, .inl (fun jj => nI (zup f p row jj))))] H := hP
      have hD : va_D A [(h, .inr (4, [.ref G, .ref ro, .ref od, .int (nI so)])), (G, .inr (0, [.ref ga, .int (nI n)])), (ga, .inl (cI, 96, .inl (fun jj => nI (g jj)))), (ro, .inl (cI, 97, .inl (fun jj => nI (zup f p row jj))))] := hD
      exact zVret hC hS (zup f p row) (fun q h1 h2 => by
        by_cases e : q = p
        · subst e
          rw [zup_s, hrow, show k = n by omega]
          exact zrow hp
        · rw [zup_n e]
          rcases Nat.lt_or_ge q k with z | z
          · exact hd q (by omega) z
          · rw [ha q z h2, show q = n by omega, zB_n, zB_n]) hP dX4_insert_119
    · skip
      have e1 := ha (k + 1) (by omega) (by omega)
      have e2 := hf (p + 1) (Nat.le_refl _) (by omega)
      have e3 := zB_iff (n := n) (g := g) (a := p + 1) (x := k + 1) (y := p + 1) (by omega) (by omega)
      have e4 := zkey_step hg hn (p := k) (q := p) (by omega) hp
      have e5 : zkey n g k ≠ zkey n g p := fun q => by have := zkey_inj hg hn (by omega) (by omega) q; omega
      have e6 := zB_le (n := n) (g := g) (a := p + 1) (q := k + 1) (by omega)
      have e7 := zB_le (n := n) (g := g) (a := p + 1) (q := p + 1) (by omega)
      have g1 := hg k
      have g2 := hg p
      have e8 := zcnt_le (fun q => decide (p + 1 ≤ q ∧ zkey n g q < zkey n g p)) k
      have e9 := ha k (Nat.le_refl _) (by omega)
      have e10 := zB_le (n := n) (g := g) (a := p + 1) (q := k) (by omega)
      refine lv_aload_n hx hb dX4_insert_39 rfl (lv_at hl 0 rfl) ?_
      refine va_get (D := D) (ci := 4) (v := .ref G) (C := RX4) (T := TX4) (N := 4) hx hb hts (fun w h => List.mem_cons_of_mem _ (inUX4 w h)) hown hK hP 0 rfl rfl 0 (by decide) (hts _ (List.mem_cons_of_mem _ mw_71)) (fun _ h9 => h9) rfl dX4_insert_40 ?_
      refine va_getN (D := D) (ci := 0) (v := .ref ga) (C := RX0) (T := TX0) (N := 2) hx hb hts (fun w h => List.mem_cons_of_mem _ (inUX0 w h)) hown hK hP 1 rfl rfl 0 (by decide) (va_Nw.use rfl (hE.1 ("StrandMapper$SortedSuffixes", 43, "StrandMapper$Bases", "symbols", "[I", "StrandMapper") (by decide +kernel))) (fun _ h9 => h9) rfl dX4_insert_43 ?_
      refine lv_iload hx hb dX4_insert_46 (lv_at hl 5 rfl) ?_
      refine zz_iald (k := k) (f := g) hx hb hK hP 2 0 rfl rfl (by omega) (by omega) dX4_insert_48 ?_
      refine lv_istore (lv' := [(6, .int (nI (g k))), (0, .ref h), (1, .int (nI p)), (2, .int (nI (g p))), (3, .int (nI (f0 (p + 1)))), (4, .int (nI row)), (5, .int (nI k))]) hx hb dX4_insert_49 hl (by decide) rfl (fun ls hl => ?_)
      refine lv_iload hx hb dX4_insert_51 (lv_at hl 0 rfl) ?_
      refine lv_iload_n hx hb dX4_insert_53 rfl (lv_at hl 3 rfl) ?_
      refine zz_lt (tgt := 76) hx hb dX4_insert_54 (by decide) (by omega) (by omega) (fun c54 => ?_) (fun c54 => ?_)
      · skip
        have hq : zkey n g k < zkey n g p := by omega
        refine lv_iconst (v := nI 1) hx hb dX4_insert_76 (by decide) ?_
        refine lv_goto (tgt := 81) hx hb dX4_insert_77 (by decide) ?_
        refine lv_istore (lv' := [(7, .int (nI 1)), (6, .int (nI (g k))), (0, .ref h), (1, .int (nI p)), (2, .int (nI (g p))), (3, .int (nI (f0 (p + 1)))), (4, .int (nI row)), (5, .int (nI k))]) hx hb dX4_insert_81 hl (by decide) rfl (fun ls hl => ?_)
        refine lv_iload hx hb dX4_insert_83 (lv_at hl 0 rfl) ?_
        refine lv_if_eq (tgt := 94) hx hb dX4_insert_85 (by decide) (fun h9 => absurd h9 (by decide)) (fun _ => ?_)
        refine lv_iinc (v := nI (row + 1)) (lv' := [(4, .int (nI (row + 1))), (7, .int (nI 1)), (6, .int (nI (g k))), (0, .ref h), (1, .int (nI p)), (2, .int (nI (g p))), (3, .int (nI (f0 (p + 1)))), (5, .int (nI k))]) hx hb dX4_insert_88 hl (k := 6) rfl (zincE (by omega)) (by decide) rfl (fun ls hl => ?_)
        refine lv_goto (tgt := 105) hx hb dX4_insert_91 (by decide) ?_
        refine lv_iinc (v := nI (k + 1)) (lv' := [(5, .int (nI (k + 1))), (4, .int (nI (row + 1))), (7, .int (nI 1)), (6, .int (nI (g k))), (0, .ref h), (1, .int (nI p)), (2, .int (nI (g p))), (3, .int (nI (f0 (p + 1))))]) hx hb dX4_insert_105 hl (k := 7) rfl (zincE (by omega)) (by decide) rfl (fun ls hl => ?_)
        refine lv_goto (tgt := 27) hx hb dX4_insert_108 (by decide) ?_
        exact ih (k + 1) (row + 1) f (by omega) (by omega) (by omega) (by rw [zcnt_t (by simp only [decide_eq_true_eq]; omega)]; omega) (fun q h1 h2 => ha q (by omega) h2) (fun q h1 h2 => by
          by_cases e : q = k
          · subst e
            rw [ha q (Nat.le_refl _) (by omega), zB_step (a := p) (by omega), if_neg (by omega)]; rfl
          · exact hd q h1 (by omega)) _ _ hP hD hS ls (lv_sub hl [4, 5, 6, 7, 1, 0] rfl)
      · skip
        refine lv_iload hx hb dX4_insert_57 (lv_at hl 0 rfl) ?_
        refine lv_iload_n hx hb dX4_insert_59 rfl (lv_at hl 3 rfl) ?_
        refine zz_ne (tgt := 80) hx hb dX4_insert_60 (by decide) (by omega) (by omega) (fun c60 => ?_) (fun c60 => ?_)
        · skip
          have hq : ¬ zkey n g k < zkey n g p := by omega
          refine lv_iconst (v := nI 0) hx hb dX4_insert_80 (by decide) ?_
          refine lv_istore (lv' := [(7, .int (nI 0)), (6, .int (nI (g k))), (0, .ref h), (1, .int (nI p)), (2, .int (nI (g p))), (3, .int (nI (f0 (p + 1)))), (4, .int (nI row)), (5, .int (nI k))]) hx hb dX4_insert_81 hl (by decide) rfl (fun ls hl => ?_)
          refine lv_iload hx hb dX4_insert_83 (lv_at hl 0 rfl) ?_
          refine lv_if_eq (tgt := 94) hx hb dX4_insert_85 (by decide) (fun _ => ?_) (fun h9 => absurd (by decide) h9)
          refine lv_aload_n hx hb dX4_insert_94 rfl (lv_at hl 2 rfl) ?_
          refine va_get (D := D) (ci := 4) (v := .ref ro) (C := RX4) (T := TX4) (N := 4) hx hb hts (fun w h => List.mem_cons_of_mem _ (inUX4 w h)) hown hK hP 0 rfl rfl 1 (by decide) (hts _ (List.mem_cons_of_mem _ mw_72)) (fun _ h9 => h9) rfl dX4_insert_95 ?_
          refine lv_iload hx hb dX4_insert_98 (lv_at hl 7 rfl) ?_
          refine lv_dup2_11 hx hb dX4_insert_100 rfl rfl ?_
          refine zz_iald (k := k) (f := f) hx hb hK hP 3 0 rfl rfl (by omega) (by omega) dX4_insert_101 ?_
          refine lv_iconst (v := nI 1) hx hb dX4_insert_102 (by decide) ?_
          refine lv_iadd hx hb dX4_insert_103 ?_
          refine zz_top (y := nI (f k + 1)) (zadd (by omega)) ?_
          refine zz_iast (k := k) (x := f k + 1) (f := f) hx hb hK hP hD hS 3 0 rfl rfl (by omega) (by omega) dX4_insert_104 (fun H locs hP hD hS => ?_)
          have hP : va_P D vwCl [(h, .inr (4, [.ref G, .ref ro, .ref od, .int (nI so)])), (G, .inr (0, [.ref ga, .int (nI n)])), (ga, .inl (cI, 96, .inl (fun jj => nI (g jj)))), (ro, .inl (cI, 97, .inl (fun jj => nI (zup f k (f k + 1) jj))))] H := hP
          have hD : va_D A [(h, .inr (4, [.ref G, .ref ro, .ref od, .int (nI so)])), (G, .inr (0, [.ref ga, .int (nI n)])), (ga, .inl (cI, 96, .inl (fun jj => nI (g jj)))), (ro, .inl (cI, 97, .inl (fun jj => nI (zup f k (f k + 1) jj))))] := hD
          refine lv_iinc (v := nI (k + 1)) (lv' := [(5, .int (nI (k + 1))), (7, .int (nI 0)), (6, .int (nI (g k))), (0, .ref h), (1, .int (nI p)), (2, .int (nI (g p))), (3, .int (nI (f0 (p + 1)))), (4, .int (nI row))]) hx hb dX4_insert_105 hl (k := 7) rfl (zincE (by omega)) (by decide) rfl (fun ls hl => ?_)
          refine lv_goto (tgt := 27) hx hb dX4_insert_108 (by decide) ?_
          exact ih (k + 1) row (zup f k (f k + 1)) (by omega) (by omega) (by omega) (by rw [zcnt_f (by simp only [decide_eq_true_eq]; omega)]; omega) (fun q h1 h2 => by rw [zup_n (by omega)]; exact ha q (by omega) h2) (fun q h1 h2 => by
            by_cases e : q = k
            · subst e
              rw [zup_s, ha q (Nat.le_refl _) (by omega), zB_step (a := p) (by omega), if_pos (by omega)]
            · rw [zup_n e]; exact hd q h1 (by omega)) _ _ hP hD hS ls (lv_sub hl [3, 4, 5, 6, 7, 0] rfl)
        · skip
          refine lv_aload_n hx hb dX4_insert_63 rfl (lv_at hl 1 rfl) ?_
          refine va_get (D := D) (ci := 4) (v := .ref ro) (C := RX4) (T := TX4) (N := 4) hx hb hts (fun w h => List.mem_cons_of_mem _ (inUX4 w h)) hown hK hP 0 rfl rfl 1 (by decide) (hts _ (List.mem_cons_of_mem _ mw_72)) (fun _ h9 => h9) rfl dX4_insert_64 ?_
          refine lv_iload hx hb dX4_insert_67 (lv_at hl 6 rfl) ?_
          refine lv_iconst (v := nI 1) hx hb dX4_insert_69 (by decide) ?_
          refine lv_iadd hx hb dX4_insert_70 ?_
          refine zz_top (y := nI (k + 1)) (zadd (by omega)) ?_
          refine zz_iald (k := k + 1) (f := f) hx hb hK hP 3 0 rfl rfl (by omega) (by omega) dX4_insert_71 ?_
          refine lv_iload_n hx hb dX4_insert_72 rfl (lv_at hl 4 rfl) ?_
          refine zz_ge (tgt := 80) hx hb dX4_insert_73 (by decide) (by omega) (by omega) (fun c73 => ?_) (fun c73 => ?_)
          · skip
            have hq : ¬ zkey n g k < zkey n g p := by omega
            refine lv_iconst (v := nI 0) hx hb dX4_insert_80 (by decide) ?_
            refine lv_istore (lv' := [(7, .int (nI 0)), (6, .int (nI (g k))), (0, .ref h), (1, .int (nI p)), (2, .int (nI (g p))), (3, .int (nI (f0 (p + 1)))), (4, .int (nI row)), (5, .int (nI k))]) hx hb dX4_insert_81 hl (by decide) rfl (fun ls hl => ?_)
            refine lv_iload hx hb dX4_insert_83 (lv_at hl 0 rfl) ?_
            refine lv_if_eq (tgt := 94) hx hb dX4_insert_85 (by decide) (fun _ => ?_) (fun h9 => absurd (by decide) h9)
            refine lv_aload_n hx hb dX4_insert_94 rfl (lv_at hl 2 rfl) ?_
            refine va_get (D := D) (ci := 4) (v := .ref ro) (C := RX4) (T := TX4) (N := 4) hx hb hts (fun w h => List.mem_cons_of_mem _ (inUX4 w h)) hown hK hP 0 rfl rfl 1 (by decide) (hts _ (List.mem_cons_of_mem _ mw_72)) (fun _ h9 => h9) rfl dX4_insert_95 ?_
            refine lv_iload hx hb dX4_insert_98 (lv_at hl 7 rfl) ?_
            refine lv_dup2_11 hx hb dX4_insert_100 rfl rfl ?_
            refine zz_iald (k := k) (f := f) hx hb hK hP 3 0 rfl rfl (by omega) (by omega) dX4_insert_101 ?_
            refine lv_iconst (v := nI 1) hx hb dX4_insert_102 (by decide) ?_
            refine lv_iadd hx hb dX4_insert_103 ?_
            refine zz_top (y := nI (f k + 1)) (zadd (by omega)) ?_
            refine zz_iast (k := k) (x := f k + 1) (f := f) hx hb hK hP hD hS 3 0 rfl rfl (by omega) (by omega) dX4_insert_104 (fun H locs hP hD hS => ?_)
            have hP : va_P D vwCl [(h, .inr (4, [.ref G, .ref ro, .ref od, .int (nI so)])), (G, .inr (0, [.ref ga, .int (nI n)])), (ga, .inl (cI, 96, .inl (fun jj => nI (g jj)))), (ro, .inl (cI, 97, .inl (fun jj => nI (zup f k (f k + 1) jj))))] H := hP
            have hD : va_D A [(h, .inr (4, [.ref G, .ref ro, .ref od, .int (nI so)])), (G, .inr (0, [.ref ga, .int (nI n)])), (ga, .inl (cI, 96, .inl (fun jj => nI (g jj)))), (ro, .inl (cI, 97, .inl (fun jj => nI (zup f k (f k + 1) jj))))] := hD
            refine lv_iinc (v := nI (k + 1)) (lv' := [(5, .int (nI (k + 1))), (7, .int (nI 0)), (6, .int (nI (g k))), (0, .ref h), (1, .int (nI p)), (2, .int (nI (g p))), (3, .int (nI (f0 (p + 1)))), (4, .int (nI row))]) hx hb dX4_insert_105 hl (k := 7) rfl (zincE (by omega)) (by decide) rfl (fun ls hl => ?_)
            refine lv_goto (tgt := 27) hx hb dX4_insert_108 (by decide) ?_
            exact ih (k + 1) row (zup f k (f k + 1)) (by omega) (by omega) (by omega) (by rw [zcnt_f (by simp only [decide_eq_true_eq]; omega)]; omega) (fun q h1 h2 => by rw [zup_n (by omega)]; exact ha q (by omega) h2) (fun q h1 h2 => by
              by_cases e : q = k
              · subst e
                rw [zup_s, ha q (Nat.le_refl _) (by omega), zB_step (a := p) (by omega), if_pos (by omega)]
              · rw [zup_n e]; exact hd q h1 (by omega)) _ _ hP hD hS ls (lv_sub hl [3, 4, 5, 6, 7, 0] rfl)
          · skip
            have hq : zkey n g k < zkey n g p := by omega
            refine lv_iconst (v := nI 1) hx hb dX4_insert_76 (by decide) ?_
            refine lv_goto (tgt := 81) hx hb dX4_insert_77 (by decide) ?_
            refine lv_istore (lv' := [(7, .int (nI 1)), (6, .int (nI (g k))), (0, .ref h), (1, .int (nI p)), (2, .int (nI (g p))), (3, .int (nI (f0 (p + 1)))), (4, .int (nI row)), (5, .int (nI k))]) hx hb dX4_insert_81 hl (by decide) rfl (fun ls hl => ?_)
            refine lv_iload hx hb dX4_insert_83 (lv_at hl 0 rfl) ?_
            refine lv_if_eq (tgt := 94) hx hb dX4_insert_85 (by decide) (fun h9 => absurd h9 (by decide)) (fun _ => ?_)
            refine lv_iinc (v := nI (row + 1)) (lv' := [(4, .int (nI (row + 1))), (7, .int (nI 1)), (6, .int (nI (g k))), (0, .ref h), (1, .int (nI p)), (2, .int (nI (g p))), (3, .int (nI (f0 (p + 1)))), (5, .int (nI k))]) hx hb dX4_insert_88 hl (k := 6) rfl (zincE (by omega)) (by decide) rfl (fun ls hl => ?_)
            refine lv_goto (tgt := 105) hx hb dX4_insert_91 (by decide) ?_
            refine lv_iinc (v := nI (k + 1)) (lv' := [(5, .int (nI (k + 1))), (4, .int (nI (row + 1))), (7, .int (nI 1)), (6, .int (nI (g k))), (0, .ref h), (1, .int (nI p)), (2, .int (nI (g p))), (3, .int (nI (f0 (p + 1))))]) hx hb dX4_insert_105 hl (k := 7) rfl (zincE (by omega)) (by decide) rfl (fun ls hl => ?_)
            refine lv_goto (tgt := 27) hx hb dX4_insert_108 (by decide) ?_
            exact ih (k + 1) (row + 1) f (by omega) (by omega) (by omega) (by rw [zcnt_t (by simp only [decide_eq_true_eq]; omega)]; omega) (fun q h1 h2 => ha q (by omega) h2) (fun q h1 h2 => by
              by_cases e : q = k
              · subst e
                rw [ha q (Nat.le_refl _) (by omega), zB_step (a := p) (by omega), if_neg (by omega)]; rfl
              · exact hd q h1 (by omega)) _ _ hP hD hS ls (lv_sub hl [4, 5, 6, 7, 1, 0] rfl)
set_option maxHeartbeats 4000000 in
set_option maxRecDepth 100000 in
theorem k_insert (l : Launch) (D : va_G) (cI cC : ClassId)  (h G ro od so ga n : Nat) (p : Nat) (g f0 : Nat → Nat) (hn : n ≤ 96) (hp : p < n) (hg : ∀ i, g i ≤ 4) (hf : ∀ q, p + 1 ≤ q → q ≤ n → f0 q = zB n g (p + 1) q) (sz : Nat) : Met l yX4_insert wsX4_insert ({ frames := 0, cells := 0, slots := 0, locals := 0 } : Room) (zPre zEn D vwCl [(cI, .int), (cC, .char)] [.ref h, .int (nI p)] [(h, .inr (4, [.ref G, .ref ro, .ref od, .int (nI so)])), (G, .inr (0, [.ref ga, .int (nI n)])), (ga, .inl (cI, 96, .inl (fun jj => nI (g jj)))), (ro, .inl (cI, 97, .inl (fun jj => nI (f0 jj))))] sz) (va_Qv (fun (uu : Nat → Nat) => ∀ q, p ≤ q → q ≤ n → uu q = zB n g p q) (fun (uu : Nat → Nat) t9 => va_P D vwCl ([(h, .inr (4, [.ref G, .ref ro, .ref od, .int (nI so)])), (G, .inr (0, [.ref ga, .int (nI n)])), (ga, .inl (cI, 96, .inl (fun jj => nI (g jj)))), (ro, .inl (cI, 97, .inl (fun jj => nI (uu jj))))]) t9.heap) (va_A [(h, .inr (4, [.ref G, .ref ro, .ref od, .int (nI so)])), (G, .inr (0, [.ref ga, .int (nI n)])), (ga, .inl (cI, 96, .inl (fun jj => nI (g jj)))), (ro, .inl (cI, 97, .inl (fun jj => nI (f0 jj))))] sz)) 0 0 (va_A [(h, .inr (4, [.ref G, .ref ro, .ref od, .int (nI so)])), (G, .inr (0, [.ref ga, .int (nI n)])), (ga, .inl (cI, 96, .inl (fun jj => nI (g jj)))), (ro, .inl (cI, 97, .inl (fun jj => nI (f0 jj))))] sz) := by
  refine zMet (cc := cX4_insert) (maxL := 8) (ret := none) (Qc := fun A => (va_Qv (fun (uu : Nat → Nat) => ∀ q, p ≤ q → q ≤ n → uu q = zB n g p q) (fun (uu : Nat → Nat) t9 => va_P D vwCl ([(h, .inr (4, [.ref G, .ref ro, .ref od, .int (nI so)])), (G, .inr (0, [.ref ga, .int (nI n)])), (ga, .inl (cI, 96, .inl (fun jj => nI (g jj)))), (ro, .inl (cI, 97, .inl (fun jj => nI (uu jj))))]) t9.heap) A)) (by decide) rfl (Nat.le_of_ble_eq_true rfl) ?_
  intro pr en s0 mi bl me co A hC hA hK hE H locs hP hD hS ls hl
  obtain ⟨hx, hb, hr, hml, hown, hts, hlocks, hin⟩ := id hC
  have hl : lv_has ls 8 [(0, .ref h), (1, .int (nI p))] := hl
  refine lv_aload_n hx hb dX4_insert_0 rfl (lv_at hl 0 rfl) ?_
  refine va_get (D := D) (ci := 4) (v := .ref G) (C := RX4) (T := TX4) (N := 4) hx hb hts (fun w h => List.mem_cons_of_mem _ (inUX4 w h)) hown hK hP 0 rfl rfl 0 (by decide) (hts _ (List.mem_cons_of_mem _ mw_71)) (fun _ h9 => h9) rfl dX4_insert_1 ?_
  refine va_getN (D := D) (ci := 0) (v := .ref ga) (C := RX0) (T := TX0) (N := 2) hx hb hts (fun w h => List.mem_cons_of_mem _ (inUX0 w h)) hown hK hP 1 rfl rfl 0 (by decide) (va_Nw.use rfl (hE.1 ("StrandMapper$SortedSuffixes", 43, "StrandMapper$Bases", "symbols", "[I", "StrandMapper") (by decide +kernel))) (fun _ h9 => h9) rfl dX4_insert_4 ?_
  refine lv_iload_n hx hb dX4_insert_7 rfl (lv_at hl 1 rfl) ?_
  refine zz_iald (k := p) (f := g) hx hb hK hP 2 0 rfl rfl (by omega) (by omega) dX4_insert_8 ?_
  refine lv_istore_n (lv' := [(2, .int (nI (g p))), (0, .ref h), (1, .int (nI p))]) hx hb dX4_insert_9 rfl hl (by decide) rfl (fun ls hl => ?_)
  refine lv_aload_n hx hb dX4_insert_10 rfl (lv_at hl 1 rfl) ?_
  refine va_get (D := D) (ci := 4) (v := .ref ro) (C := RX4) (T := TX4) (N := 4) hx hb hts (fun w h => List.mem_cons_of_mem _ (inUX4 w h)) hown hK hP 0 rfl rfl 1 (by decide) (hts _ (List.mem_cons_of_mem _ mw_72)) (fun _ h9 => h9) rfl dX4_insert_11 ?_
  refine lv_iload_n hx hb dX4_insert_14 rfl (lv_at hl 2 rfl) ?_
  refine lv_iconst (v := nI 1) hx hb dX4_insert_15 (by decide) ?_
  refine lv_iadd hx hb dX4_insert_16 ?_
  refine zz_top (y := nI (p + 1)) (zadd (by omega)) ?_
  refine zz_iald (k := p + 1) (f := f0) hx hb hK hP 3 0 rfl rfl (by omega) (by omega) dX4_insert_17 ?_
  refine lv_istore_n (lv' := [(3, .int (nI (f0 (p + 1)))), (2, .int (nI (g p))), (0, .ref h), (1, .int (nI p))]) hx hb dX4_insert_18 rfl hl (by decide) rfl (fun ls hl => ?_)
  refine lv_iconst (v := nI 1) hx hb dX4_insert_19 (by decide) ?_
  refine lv_istore (lv' := [(4, .int (nI 1)), (3, .int (nI (f0 (p + 1)))), (2, .int (nI (g p))), (0, .ref h), (1, .int (nI p))]) hx hb dX4_insert_20 hl (by decide) rfl (fun ls hl => ?_)
  refine lv_iload_n hx hb dX4_insert_22 rfl (lv_at hl 4 rfl) ?_
  refine lv_iconst (v := nI 1) hx hb dX4_insert_23 (by decide) ?_
  refine lv_iadd hx hb dX4_insert_24 ?_
  refine zz_top (y := nI (p + 1)) (zadd (by omega)) ?_
  refine lv_istore (lv' := [(5, .int (nI (p + 1))), (4, .int (nI 1)), (3, .int (nI (f0 (p + 1)))), (2, .int (nI (g p))), (0, .ref h), (1, .int (nI p))]) hx hb dX4_insert_25 hl (by decide) rfl (fun ls hl => ?_)
  exact k_insert_L27 l D cI cC  h G ro od so ga n p g f0 hn hp hg hf hC hA hK hE _ (p + 1) 1 f0 (Nat.lt_succ_self _) (Nat.le_refl _) (by omega) (by rw [zcnt_none (p + 1) (fun i hi => by simp only [decide_eq_true_eq]; omega)]) (fun q h1 h2 => hf q h1 h2) (fun q h1 h2 => absurd h1 (by omega)) _ _ hP hD hS ls (lv_sub hl [4, 5, 3, 2, 1, 0] rfl)
set_option maxHeartbeats 4000000 in
set_option maxRecDepth 100000 in
theorem k_sort_L40 {pr : Program} {en : Env} {s0 : State} {mi : MethodId} {bl : List Frame} {me : Method} {co : Code} {A : Nat → Prop} (l : Launch) (D : va_G) (cI cC : ClassId)  (h G ro od so ga n : Nat) (g f0 o0 : Nat → Nat) (hn : n ≤ 96) (hg : ∀ i, g i ≤ 4) (hC : zK pr s0 mi ([.ref h] : List Value).toArray me co cX4_sort 2 none yX4_sort wsX4_sort) (hA : ∀ q, s0.heap.size ≤ q → A q) (hK : va_K D vwCl [(cI, .int), (cC, .char)] s0) (hE : zEn A s0 s0.heap) :
    ∀ (N : Nat) (k : Nat) (f o : Nat → Nat), n + 1 - k < N → (k ≤ n + 1) → (∀ q, q ≤ n → f q = zbef n g q) → (∀ q, q < k → o (zbef n g q) = q) → ∀ (H : Heap) (locs : List Loc), va_P D vwCl [(h, .inr (4, [.ref G, .ref ro, .ref od, .int (nI so)])), (G, .inr (0, [.ref ga, .int (nI n)])), (ga, .inl (cI, 96, .inl (fun jj => nI (g jj)))), (ro, .inl (cI, 97, .inl (fun jj => nI (f jj)))), (od, .inl (cI, 97, .inl (fun jj => nI (o jj))))] H → va_D A [(h, .inr (4, [.ref G, .ref ro, .ref od, .int (nI so)])), (G, .inr (0, [.ref ga, .int (nI n)])), (ga, .inl (cI, 96, .inl (fun jj => nI (g jj)))), (ro, .inl (cI, 97, .inl (fun jj => nI (f jj)))), (od, .inl (cI, 97, .inl (fun jj => nI (o jj))))] → va_S A s0.heap H locs → ∀ ls : Array Slot, lv_has ls 2 [(0, .ref h), (1, .int (nI k))] → W pr l en ({ frames := 1, cells := 0, slots := 0, locals := 27 } : Room) s0 mi ([.ref h] : List Value).toArray bl me co H locs 0 0 (MQ bl (va_Qv (fun (uu : (Nat → Nat) × (Nat → Nat)) => zord n g uu.2) (fun (uu : (Nat → Nat) × (Nat → Nat)) t9 => va_P D vwCl ([(h, .inr (4, [.ref G, .ref ro, .ref od, .int (nI 1)])), (G, .inr (0, [.ref ga, .int (nI n)])), (ga, .inl (cI, 96, .inl (fun jj => nI (g jj)))), (ro, .inl (cI, 97, .inl (fun jj => nI (uu.1 jj)))), (od, .inl (cI, 97, .inl (fun jj => nI (uu.2 jj))))]) t9.heap) A) ([.ref h] : List Value).toArray s0 0 0 A) (F0 mi 40 ls []) := by
  obtain ⟨hx, hb, hr, hml, hown, hts, hlocks, hin⟩ := id hC
  intro N
  induction N with
  | zero =>
    intro k f o hmea
    omega
  | succ N ih =>
    intro k f o hmea hk hf ho H locs hP hD hS ls hl
    refine lv_iload_n hx hb dX4_sort_40 rfl (lv_at hl 1 rfl) ?_
    refine lv_aload_n hx hb dX4_sort_41 rfl (lv_at hl 0 rfl) ?_
    refine va_get (D := D) (ci := 4) (v := .ref G) (C := RX4) (T := TX4) (N := 4) hx hb hts (fun w h => List.mem_cons_of_mem _ (inUX4 w h)) hown hK hP 0 rfl rfl 0 (by decide) (hts _ (List.mem_cons_of_mem _ mw_71)) (fun _ h9 => h9) rfl dX4_sort_42 ?_
    refine va_getN (D := D) (ci := 0) (v := .int (nI n)) (C := RX0) (T := TX0) (N := 2) hx hb hts (fun w h => List.mem_cons_of_mem _ (inUX0 w h)) hown hK hP 1 rfl rfl 1 (by decide) (va_Nw.use rfl (hE.1 ("StrandMapper$SortedSuffixes", 26, "StrandMapper$Bases", "used", "I", "StrandMapper") (by decide +kernel))) (fun _ h9 => h9) rfl dX4_sort_45 ?_
    refine zz_gt (tgt := 69) hx hb dX4_sort_48 (by decide) (by omega) (by omega) (fun c48 => ?_) (fun c48 => ?_)
    · skip
      refine lv_aload_n hx hb dX4_sort_69 rfl (lv_at hl 0 rfl) ?_
      refine lv_iconst (v := nI 1) hx hb dX4_sort_70 (by decide) ?_
      refine va_put (D := D) (ci := 4) (v := .int (nI 1)) (ty := .boolean) (C := RX4) (T := TX4) (N := 4) hx hb hts (fun w h => List.mem_cons_of_mem _ (inUX4 w h)) tyX4 tyX4_ok nmX4 hown hK hP hD hS 0 rfl rfl 3 (by decide) (hts _ (List.mem_cons_of_mem _ mw_74)) (fun _ h9 => h9) rfl (by decide +kernel) (by decide) (by decide) (Nat.le_of_ble_eq_true rfl) dX4_sort_71 (fun H locs hP hD hS => ?_)
      have hP : va_P D vwCl [(h, .inr (4, [.ref G, .ref ro, .ref od, .int (nI 1)])), (G, .inr (0, [.ref ga, .int (nI n)])), (ga, .inl (cI, 96, .inl (fun jj => nI (g jj)))), (ro, .inl (cI, 97, .inl (fun jj => nI (f jj)))), (od, .inl (cI, 97, .inl (fun jj => nI (o jj))))] H := hP
      have hD : va_D A [(h, .inr (4, [.ref G, .ref ro, .ref od, .int (nI 1)])), (G, .inr (0, [.ref ga, .int (nI n)])), (ga, .inl (cI, 96, .inl (fun jj => nI (g jj)))), (ro, .inl (cI, 97, .inl (fun jj => nI (f jj)))), (od, .inl (cI, 97, .inl (fun jj => nI (o jj))))] := hD
      exact zVret hC hS (f, o) (fun q h => ho q (by omega)) hP dX4_sort_74
    · skip
      have e1 := hf k (by omega)
      have e2 := zbef_le (n := n) (g := g) (p := k) (by omega)
      refine lv_aload_n hx hb dX4_sort_51 rfl (lv_at hl 0 rfl) ?_
      refine va_get (D := D) (ci := 4) (v := .ref od) (C := RX4) (T := TX4) (N := 4) hx hb hts (fun w h => List.mem_cons_of_mem _ (inUX4 w h)) hown hK hP 0 rfl rfl 2 (by decide) (hts _ (List.mem_cons_of_mem _ mw_73)) (fun _ h9 => h9) rfl dX4_sort_52 ?_
      refine lv_aload_n hx hb dX4_sort_55 rfl (lv_at hl 0 rfl) ?_
      refine va_get (D := D) (ci := 4) (v := .ref ro) (C := RX4) (T := TX4) (N := 4) hx hb hts (fun w h => List.mem_cons_of_mem _ (inUX4 w h)) hown hK hP 0 rfl rfl 1 (by decide) (hts _ (List.mem_cons_of_mem _ mw_72)) (fun _ h9 => h9) rfl dX4_sort_56 ?_
      refine lv_iload_n hx hb dX4_sort_59 rfl (lv_at hl 1 rfl) ?_
      refine zz_iald (k := k) (f := f) hx hb hK hP 3 0 rfl rfl (by omega) (by omega) dX4_sort_60 ?_
      refine lv_iload_n hx hb dX4_sort_61 rfl (lv_at hl 1 rfl) ?_
      refine zz_iast (k := f k) (x := k) (f := o) hx hb hK hP hD hS 4 0 rfl rfl (by omega) (by omega) dX4_sort_62 (fun H locs hP hD hS => ?_)
      have hP : va_P D vwCl [(h, .inr (4, [.ref G, .ref ro, .ref od, .int (nI so)])), (G, .inr (0, [.ref ga, .int (nI n)])), (ga, .inl (cI, 96, .inl (fun jj => nI (g jj)))), (ro, .inl (cI, 97, .inl (fun jj => nI (f jj)))), (od, .inl (cI, 97, .inl (fun jj => nI (zup o (f k) k jj))))] H := hP
      have hD : va_D A [(h, .inr (4, [.ref G, .ref ro, .ref od, .int (nI so)])), (G, .inr (0, [.ref ga, .int (nI n)])), (ga, .inl (cI, 96, .inl (fun jj => nI (g jj)))), (ro, .inl (cI, 97, .inl (fun jj => nI (f jj)))), (od, .inl (cI, 97, .inl (fun jj => nI (zup o (f k) k jj))))] := hD
      refine lv_iinc (v := nI (k + 1)) (lv' := [(1, .int (nI (k + 1))), (0, .ref h)]) hx hb dX4_sort_63 hl (k := 1) rfl (zincE (by omega)) (by decide) rfl (fun ls hl => ?_)
      refine lv_goto (tgt := 40) hx hb dX4_sort_66 (by decide) ?_
      exact ih (k + 1) f (zup o (f k) k) (by omega) (by omega) hf (fun q h => by
        by_cases e : q = k
        · subst e
          rw [hf q (by omega), zup_s]
        · rw [zup_n (fun z => e (zbef_inj hg hn (by omega) (by omega) (z.trans (hf k (by omega)))))]
          exact ho q (by omega)) _ _ hP hD hS ls (lv_sub hl [1, 0] rfl)
set_option maxHeartbeats 4000000 in
set_option maxRecDepth 100000 in
theorem k_sort_L23 {pr : Program} {en : Env} {s0 : State} {mi : MethodId} {bl : List Frame} {me : Method} {co : Code} {A : Nat → Prop} (l : Launch) (D : va_G) (cI cC : ClassId)  (h G ro od so ga n : Nat) (g f0 o0 : Nat → Nat) (hn : n ≤ 96) (hg : ∀ i, g i ≤ 4) (hC : zK pr s0 mi ([.ref h] : List Value).toArray me co cX4_sort 2 none yX4_sort wsX4_sort) (hA : ∀ q, s0.heap.size ≤ q → A q) (hK : va_K D vwCl [(cI, .int), (cC, .char)] s0) (hE : zEn A s0 s0.heap) :
    ∀ (N : Nat) (j : Nat) (f : Nat → Nat), j < N → (j ≤ n) → (∀ q, j ≤ q → q ≤ n → f q = zB n g j q) → ∀ (H : Heap) (locs : List Loc), va_P D vwCl [(h, .inr (4, [.ref G, .ref ro, .ref od, .int (nI so)])), (G, .inr (0, [.ref ga, .int (nI n)])), (ga, .inl (cI, 96, .inl (fun jj => nI (g jj)))), (ro, .inl (cI, 97, .inl (fun jj => nI (f jj)))), (od, .inl (cI, 97, .inl (fun jj => nI (o0 jj))))] H → va_D A [(h, .inr (4, [.ref G, .ref ro, .ref od, .int (nI so)])), (G, .inr (0, [.ref ga, .int (nI n)])), (ga, .inl (cI, 96, .inl (fun jj => nI (g jj)))), (ro, .inl (cI, 97, .inl (fun jj => nI (f jj)))), (od, .inl (cI, 97, .inl (fun jj => nI (o0 jj))))] → va_S A s0.heap H locs → ∀ ls : Array Slot, lv_has ls 2 [(0, .ref h), (1, .int (zi j))] → W pr l en ({ frames := 1, cells := 0, slots := 0, locals := 27 } : Room) s0 mi ([.ref h] : List Value).toArray bl me co H locs 0 0 (MQ bl (va_Qv (fun (uu : (Nat → Nat) × (Nat → Nat)) => zord n g uu.2) (fun (uu : (Nat → Nat) × (Nat → Nat)) t9 => va_P D vwCl ([(h, .inr (4, [.ref G, .ref ro, .ref od, .int (nI 1)])), (G, .inr (0, [.ref ga, .int (nI n)])), (ga, .inl (cI, 96, .inl (fun jj => nI (g jj)))), (ro, .inl (cI, 97, .inl (fun jj => nI (uu.1 jj)))), (od, .inl (cI, 97, .inl (fun jj => nI (uu.2 jj))))]) t9.heap) A) ([.ref h] : List Value).toArray s0 0 0 A) (F0 mi 23 ls []) := by
  obtain ⟨hx, hb, hr, hml, hown, hts, hlocks, hin⟩ := id hC
  intro N
  induction N with
  | zero =>
    intro j f hmea
    omega
  | succ N ih =>
    intro j f hmea hj hf H locs hP hD hS ls hl
    cases j with
    | zero =>
      have hl : lv_has ls 2 [(0, .ref h), (1, .int ((-1)))] := hl
      have hP : va_P D vwCl [(h, .inr (4, [.ref G, .ref ro, .ref od, .int (nI so)])), (G, .inr (0, [.ref ga, .int (nI n)])), (ga, .inl (cI, 96, .inl (fun jj => nI (g jj)))), (ro, .inl (cI, 97, .inl (fun jj => nI (f jj)))), (od, .inl (cI, 97, .inl (fun jj => nI (o0 jj))))] H := hP
      have hD : va_D A [(h, .inr (4, [.ref G, .ref ro, .ref od, .int (nI so)])), (G, .inr (0, [.ref ga, .int (nI n)])), (ga, .inl (cI, 96, .inl (fun jj => nI (g jj)))), (ro, .inl (cI, 97, .inl (fun jj => nI (f jj)))), (od, .inl (cI, 97, .inl (fun jj => nI (o0 jj))))] := hD
      refine lv_iload_n hx hb dX4_sort_23 rfl (lv_at hl 1 rfl) ?_
      refine lv_if_lt (tgt := 38) hx hb dX4_sort_24 (by decide) (fun c24 => ?_) (fun c24 => ?_)
      · skip
        refine lv_iconst (v := nI 0) hx hb dX4_sort_38 (by decide) ?_
        refine lv_istore_n (lv' := [(1, .int (nI 0)), (0, .ref h)]) hx hb dX4_sort_39 rfl hl (by decide) rfl (fun ls hl => ?_)
        exact k_sort_L40 l D cI cC  h G ro od so ga n g f0 o0 hn hg hC hA hK hE _ 0 f o0 (Nat.lt_succ_self _) (Nat.zero_le _) (fun q h => hf q (Nat.zero_le _) h) (fun q h => absurd h (Nat.not_lt_zero _)) _ _ hP hD hS ls (lv_sub hl [1, 0] rfl)
      · skip
        exact absurd (by decide) c24
    | succ j =>
      have hl : lv_has ls 2 [(0, .ref h), (1, .int (nI j))] := hl
      have hP : va_P D vwCl [(h, .inr (4, [.ref G, .ref ro, .ref od, .int (nI so)])), (G, .inr (0, [.ref ga, .int (nI n)])), (ga, .inl (cI, 96, .inl (fun jj => nI (g jj)))), (ro, .inl (cI, 97, .inl (fun jj => nI (f jj)))), (od, .inl (cI, 97, .inl (fun jj => nI (o0 jj))))] H := hP
      have hD : va_D A [(h, .inr (4, [.ref G, .ref ro, .ref od, .int (nI so)])), (G, .inr (0, [.ref ga, .int (nI n)])), (ga, .inl (cI, 96, .inl (fun jj => nI (g jj)))), (ro, .inl (cI, 97, .inl (fun jj => nI (f jj)))), (od, .inl (cI, 97, .inl (fun jj => nI (o0 jj))))] := hD
      refine lv_iload_n hx hb dX4_sort_23 rfl (lv_at hl 1 rfl) ?_
      refine zz_lt0 (tgt := 38) hx hb dX4_sort_24 (by decide) (by omega) ?_
      refine lv_aload_n hx hb dX4_sort_27 rfl (lv_at hl 0 rfl) ?_
      refine lv_iload_n hx hb dX4_sort_28 rfl (lv_at hl 1 rfl) ?_
      refine zCv (is := [0, 1, 2, 3]) (wf := (fun (uu : Nat → Nat) => ([(h, .inr (4, [.ref G, .ref ro, .ref od, .int (nI so)])), (G, .inr (0, [.ref ga, .int (nI n)])), (ga, .inl (cI, 96, .inl (fun jj => nI (g jj)))), (ro, .inl (cI, 97, .inl (fun jj => nI (uu jj))))] : va_W))) (va_runV (As := [.int (nI j)]) (rest := []) ⟨hx, hb, hml, hown, hts⟩ (k_insert l D cI cC  h G ro od so ga n j g f (by omega) (by omega) hg (fun q h1 h2 => hf q h1 h2) H.size) (cwV 1 hts (zgood mw_243 mw_245 mw_1 mw_28 mw_246) rfl rfl rfl (by decide +kernel) ⟨Nat.le_of_ble_eq_true rfl, Nat.le_of_ble_eq_true rfl⟩) ⟨zBlind zEn_ok, va_recv hK hP (ci := 4) (q0 := 0) rfl rfl, zAt (av := [.ref h, .int (nI j)]) zEn_ok hP hD hK hS hA hE [0, 1, 2, 3] rfl (by decide)⟩ rfl rfl hl.1 rfl (lv_room (Nat.le_of_ble_eq_true rfl)) dX4_sort_29 ⟨Nat.zero_le _, Nat.zero_le _⟩) hP hD hS hA rfl (fun _ => rfl) (fun u29 H locs w29 hP hD hS => ?_)
      have hP : va_P D vwCl [(h, .inr (4, [.ref G, .ref ro, .ref od, .int (nI so)])), (G, .inr (0, [.ref ga, .int (nI n)])), (ga, .inl (cI, 96, .inl (fun jj => nI (g jj)))), (ro, .inl (cI, 97, .inl (fun jj => nI (u29 jj)))), (od, .inl (cI, 97, .inl (fun jj => nI (o0 jj))))] H := hP
      have hD : va_D A [(h, .inr (4, [.ref G, .ref ro, .ref od, .int (nI so)])), (G, .inr (0, [.ref ga, .int (nI n)])), (ga, .inl (cI, 96, .inl (fun jj => nI (g jj)))), (ro, .inl (cI, 97, .inl (fun jj => nI (u29 jj)))), (od, .inl (cI, 97, .inl (fun jj => nI (o0 jj))))] := hD
      refine lv_iinc (v := zi j) (lv' := [(1, .int (zi j)), (0, .ref h)]) hx hb dX4_sort_32 hl (k := 1) rfl (zi_dec j) (by decide) rfl (fun ls hl => ?_)
      refine lv_goto (tgt := 23) hx hb dX4_sort_35 (by decide) ?_
      exact ih j u29 (by omega) (by omega) (fun q h1 h2 => w29 q h1 h2) _ _ hP hD hS ls (lv_sub hl [1, 0] rfl)
set_option maxHeartbeats 4000000 in
set_option maxRecDepth 100000 in
theorem k_sort (l : Launch) (D : va_G) (cI cC : ClassId)  (h G ro od so ga n : Nat) (g f0 o0 : Nat → Nat) (hn : n ≤ 96) (hg : ∀ i, g i ≤ 4) (sz : Nat) : Met l yX4_sort wsX4_sort ({ frames := 1, cells := 0, slots := 0, locals := 27 } : Room) (zPre zEn D vwCl [(cI, .int), (cC, .char)] [.ref h] [(h, .inr (4, [.ref G, .ref ro, .ref od, .int (nI so)])), (G, .inr (0, [.ref ga, .int (nI n)])), (ga, .inl (cI, 96, .inl (fun jj => nI (g jj)))), (ro, .inl (cI, 97, .inl (fun jj => nI (f0 jj)))), (od, .inl (cI, 97, .inl (fun jj => nI (o0 jj))))] sz) (va_Qv (fun (uu : (Nat → Nat) × (Nat → Nat)) => zord n g uu.2) (fun (uu : (Nat → Nat) × (Nat → Nat)) t9 => va_P D vwCl ([(h, .inr (4, [.ref G, .ref ro, .ref od, .int (nI 1)])), (G, .inr (0, [.ref ga, .int (nI n)])), (ga, .inl (cI, 96, .inl (fun jj => nI (g jj)))), (ro, .inl (cI, 97, .inl (fun jj => nI (uu.1 jj)))), (od, .inl (cI, 97, .inl (fun jj => nI (uu.2 jj))))]) t9.heap) (va_A [(h, .inr (4, [.ref G, .ref ro, .ref od, .int (nI so)])), (G, .inr (0, [.ref ga, .int (nI n)])), (ga, .inl (cI, 96, .inl (fun jj => nI (g jj)))), (ro, .inl (cI, 97, .inl (fun jj => nI (f0 jj)))), (od, .inl (cI, 97, .inl (fun jj => nI (o0 jj))))] sz)) 0 0 (va_A [(h, .inr (4, [.ref G, .ref ro, .ref od, .int (nI so)])), (G, .inr (0, [.ref ga, .int (nI n)])), (ga, .inl (cI, 96, .inl (fun jj => nI (g jj)))), (ro, .inl (cI, 97, .inl (fun jj => nI (f0 jj)))), (od, .inl (cI, 97, .inl (fun jj => nI (o0 jj))))] sz) := by
  refine zMet (cc := cX4_sort) (maxL := 2) (ret := none) (Qc := fun A => (va_Qv (fun (uu : (Nat → Nat) × (Nat → Nat)) => zord n g uu.2) (fun (uu : (Nat → Nat) × (Nat → Nat)) t9 => va_P D vwCl ([(h, .inr (4, [.ref G, .ref ro, .ref od, .int (nI 1)])), (G, .inr (0, [.ref ga, .int (nI n)])), (ga, .inl (cI, 96, .inl (fun jj => nI (g jj)))), (ro, .inl (cI, 97, .inl (fun jj => nI (uu.1 jj)))), (od, .inl (cI, 97, .inl (fun jj => nI (uu.2 jj))))]) t9.heap) A)) (by decide) rfl (Nat.le_of_ble_eq_true rfl) ?_
  intro pr en s0 mi bl me co A hC hA hK hE H locs hP hD hS ls hl
  obtain ⟨hx, hb, hr, hml, hown, hts, hlocks, hin⟩ := id hC
  have hl : lv_has ls 2 [(0, .ref h)] := hl
  refine lv_aload_n hx hb dX4_sort_0 rfl (lv_at hl 0 rfl) ?_
  refine va_get (D := D) (ci := 4) (v := .ref ro) (C := RX4) (T := TX4) (N := 4) hx hb hts (fun w h => List.mem_cons_of_mem _ (inUX4 w h)) hown hK hP 0 rfl rfl 1 (by decide) (hts _ (List.mem_cons_of_mem _ mw_72)) (fun _ h9 => h9) rfl dX4_sort_1 ?_
  refine lv_aload_n hx hb dX4_sort_4 rfl (lv_at hl 0 rfl) ?_
  refine va_get (D := D) (ci := 4) (v := .ref G) (C := RX4) (T := TX4) (N := 4) hx hb hts (fun w h => List.mem_cons_of_mem _ (inUX4 w h)) hown hK hP 0 rfl rfl 0 (by decide) (hts _ (List.mem_cons_of_mem _ mw_71)) (fun _ h9 => h9) rfl dX4_sort_5 ?_
  refine va_getN (D := D) (ci := 0) (v := .int (nI n)) (C := RX0) (T := TX0) (N := 2) hx hb hts (fun w h => List.mem_cons_of_mem _ (inUX0 w h)) hown hK hP 1 rfl rfl 1 (by decide) (va_Nw.use rfl (hE.1 ("StrandMapper$SortedSuffixes", 26, "StrandMapper$Bases", "used", "I", "StrandMapper") (by decide +kernel))) (fun _ h9 => h9) rfl dX4_sort_8 ?_
  refine lv_iconst (v := nI 0) hx hb dX4_sort_11 (by decide) ?_
  refine zz_iast (k := n) (x := 0) (f := f0) hx hb hK hP hD hS 3 0 rfl rfl (by omega) (by omega) dX4_sort_12 (fun H locs hP hD hS => ?_)
  have hP : va_P D vwCl [(h, .inr (4, [.ref G, .ref ro, .ref od, .int (nI so)])), (G, .inr (0, [.ref ga, .int (nI n)])), (ga, .inl (cI, 96, .inl (fun jj => nI (g jj)))), (ro, .inl (cI, 97, .inl (fun jj => nI (zup f0 n 0 jj)))), (od, .inl (cI, 97, .inl (fun jj => nI (o0 jj))))] H := hP
  have hD : va_D A [(h, .inr (4, [.ref G, .ref ro, .ref od, .int (nI so)])), (G, .inr (0, [.ref ga, .int (nI n)])), (ga, .inl (cI, 96, .inl (fun jj => nI (g jj)))), (ro, .inl (cI, 97, .inl (fun jj => nI (zup f0 n 0 jj)))), (od, .inl (cI, 97, .inl (fun jj => nI (o0 jj))))] := hD
  refine lv_aload_n hx hb dX4_sort_13 rfl (lv_at hl 0 rfl) ?_
  refine va_get (D := D) (ci := 4) (v := .ref G) (C := RX4) (T := TX4) (N := 4) hx hb hts (fun w h => List.mem_cons_of_mem _ (inUX4 w h)) hown hK hP 0 rfl rfl 0 (by decide) (hts _ (List.mem_cons_of_mem _ mw_71)) (fun _ h9 => h9) rfl dX4_sort_14 ?_
  refine va_getN (D := D) (ci := 0) (v := .int (nI n)) (C := RX0) (T := TX0) (N := 2) hx hb hts (fun w h => List.mem_cons_of_mem _ (inUX0 w h)) hown hK hP 1 rfl rfl 1 (by decide) (va_Nw.use rfl (hE.1 ("StrandMapper$SortedSuffixes", 26, "StrandMapper$Bases", "used", "I", "StrandMapper") (by decide +kernel))) (fun _ h9 => h9) rfl dX4_sort_17 ?_
  refine lv_iconst (v := nI 1) hx hb dX4_sort_20 (by decide) ?_
  refine lv_isub hx hb dX4_sort_21 ?_
  refine zz_top (y := zi n) (zi_sub n) ?_
  refine lv_istore_n (lv' := [(1, .int (zi n)), (0, .ref h)]) hx hb dX4_sort_22 rfl hl (by decide) rfl (fun ls hl => ?_)
  exact k_sort_L23 l D cI cC  h G ro od so ga n g f0 o0 hn hg hC hA hK hE _ n (zup f0 n 0) (Nat.lt_succ_self _) (Nat.le_refl _) (fun q h1 h2 => by rw [show q = n by omega, zup_s, zB_n]) _ _ hP hD hS ls (lv_sub hl [1, 0] rfl)
set_option maxHeartbeats 4000000 in
set_option maxRecDepth 100000 in
theorem k_placeOfRow (l : Launch) (D : va_G) (cI cC : ClassId)  (h G ro od so ga n : Nat) (i : Nat) (g f0 o0 : Nat → Nat) (hn : n ≤ 96) (hg : ∀ i, g i ≤ 4) (hi : i ≤ n) (hso : so = 0 ∨ (so = 1 ∧ zord n g o0)) (sz : Nat) : Met l yX4_placeOfRow wsX4_placeOfRow ({ frames := 2, cells := 0, slots := 0, locals := 48 } : Room) (zPre zEn D vwCl [(cI, .int), (cC, .char)] [.ref h, .int (nI i)] [(h, .inr (4, [.ref G, .ref ro, .ref od, .int (nI so)])), (G, .inr (0, [.ref ga, .int (nI n)])), (ga, .inl (cI, 96, .inl (fun jj => nI (g jj)))), (ro, .inl (cI, 97, .inl (fun jj => nI (f0 jj)))), (od, .inl (cI, 97, .inl (fun jj => nI (o0 jj))))] sz) (va_Qi (fun (rv : Int32) (uu : (Nat → Nat) × (Nat → Nat)) => rv = nI (uu.2 i) ∧ zord n g uu.2) (fun (uu : (Nat → Nat) × (Nat → Nat)) t9 => va_P D vwCl ([(h, .inr (4, [.ref G, .ref ro, .ref od, .int (nI 1)])), (G, .inr (0, [.ref ga, .int (nI n)])), (ga, .inl (cI, 96, .inl (fun jj => nI (g jj)))), (ro, .inl (cI, 97, .inl (fun jj => nI (uu.1 jj)))), (od, .inl (cI, 97, .inl (fun jj => nI (uu.2 jj))))]) t9.heap) (va_A [(h, .inr (4, [.ref G, .ref ro, .ref od, .int (nI so)])), (G, .inr (0, [.ref ga, .int (nI n)])), (ga, .inl (cI, 96, .inl (fun jj => nI (g jj)))), (ro, .inl (cI, 97, .inl (fun jj => nI (f0 jj)))), (od, .inl (cI, 97, .inl (fun jj => nI (o0 jj))))] sz)) 0 0 (va_A [(h, .inr (4, [.ref G, .ref ro, .ref od, .int (nI so)])), (G, .inr (0, [.ref ga, .int (nI n)])), (ga, .inl (cI, 96, .inl (fun jj => nI (g jj)))), (ro, .inl (cI, 97, .inl (fun jj => nI (f0 jj)))), (od, .inl (cI, 97, .inl (fun jj => nI (o0 jj))))] sz) := by
  refine zMet (cc := cX4_placeOfRow) (maxL := 2) (ret := (some .int)) (Qc := fun A => (va_Qi (fun (rv : Int32) (uu : (Nat → Nat) × (Nat → Nat)) => rv = nI (uu.2 i) ∧ zord n g uu.2) (fun (uu : (Nat → Nat) × (Nat → Nat)) t9 => va_P D vwCl ([(h, .inr (4, [.ref G, .ref ro, .ref od, .int (nI 1)])), (G, .inr (0, [.ref ga, .int (nI n)])), (ga, .inl (cI, 96, .inl (fun jj => nI (g jj)))), (ro, .inl (cI, 97, .inl (fun jj => nI (uu.1 jj)))), (od, .inl (cI, 97, .inl (fun jj => nI (uu.2 jj))))]) t9.heap) A)) (by decide) rfl (Nat.le_of_ble_eq_true rfl) ?_
  intro pr en s0 mi bl me co A hC hA hK hE H locs hP hD hS ls hl
  obtain ⟨hx, hb, hr, hml, hown, hts, hlocks, hin⟩ := id hC
  have hl : lv_has ls 2 [(0, .ref h), (1, .int (nI i))] := hl
  refine lv_aload_n hx hb dX4_placeOfRow_0 rfl (lv_at hl 0 rfl) ?_
  refine va_get (D := D) (ci := 4) (v := .int (nI so)) (C := RX4) (T := TX4) (N := 4) hx hb hts (fun w h => List.mem_cons_of_mem _ (inUX4 w h)) hown hK hP 0 rfl rfl 3 (by decide) (hts _ (List.mem_cons_of_mem _ mw_74)) (fun _ h9 => h9) rfl dX4_placeOfRow_1 ?_
  refine zz_ne0 (tgt := 11) hx hb dX4_placeOfRow_4 (by decide) (by rcases hso with q | q <;> omega) (fun c4 => ?_) (fun c4 => ?_)
  · skip
    have e1 : so = 1 ∧ zord n g o0 := hso.resolve_left c4
    obtain ⟨e2, e3⟩ := e1
    subst e2
    have hP : va_P D vwCl [(h, .inr (4, [.ref G, .ref ro, .ref od, .int (nI 1)])), (G, .inr (0, [.ref ga, .int (nI n)])), (ga, .inl (cI, 96, .inl (fun jj => nI (g jj)))), (ro, .inl (cI, 97, .inl (fun jj => nI (f0 jj)))), (od, .inl (cI, 97, .inl (fun jj => nI (o0 jj))))] H := hP
    have hD : va_D A [(h, .inr (4, [.ref G, .ref ro, .ref od, .int (nI 1)])), (G, .inr (0, [.ref ga, .int (nI n)])), (ga, .inl (cI, 96, .inl (fun jj => nI (g jj)))), (ro, .inl (cI, 97, .inl (fun jj => nI (f0 jj)))), (od, .inl (cI, 97, .inl (fun jj => nI (o0 jj))))] := hD
    refine lv_aload_n hx hb dX4_placeOfRow_11 rfl (lv_at hl 0 rfl) ?_
    refine va_get (D := D) (ci := 4) (v := .ref od) (C := RX4) (T := TX4) (N := 4) hx hb hts (fun w h => List.mem_cons_of_mem _ (inUX4 w h)) hown hK hP 0 rfl rfl 2 (by decide) (hts _ (List.mem_cons_of_mem _ mw_73)) (fun _ h9 => h9) rfl dX4_placeOfRow_12 ?_
    refine lv_iload_n hx hb dX4_placeOfRow_15 rfl (lv_at hl 1 rfl) ?_
    refine zz_iald (k := i) (f := o0) hx hb hK hP 4 0 rfl rfl (by omega) (by omega) dX4_placeOfRow_16 ?_
    exact zIret hC hS (f0, o0) ⟨rfl, e3⟩ hP (vp_nar_int _) dX4_placeOfRow_17
  · skip
    refine lv_aload_n hx hb dX4_placeOfRow_7 rfl (lv_at hl 0 rfl) ?_
    refine zCv (is := [0, 1, 2, 3, 4]) (wf := (fun (uu : (Nat → Nat) × (Nat → Nat)) => ([(h, .inr (4, [.ref G, .ref ro, .ref od, .int (nI 1)])), (G, .inr (0, [.ref ga, .int (nI n)])), (ga, .inl (cI, 96, .inl (fun jj => nI (g jj)))), (ro, .inl (cI, 97, .inl (fun jj => nI (uu.1 jj)))), (od, .inl (cI, 97, .inl (fun jj => nI (uu.2 jj))))] : va_W))) (va_runV (As := []) (rest := []) ⟨hx, hb, hml, hown, hts⟩ (k_sort l D cI cC  h G ro od so ga n g f0 o0 (by omega) hg H.size) (cwV 0 hts (zgood mw_239 mw_241 mw_0 mw_28 mw_242) rfl rfl rfl (by decide +kernel) ⟨Nat.le_of_ble_eq_true rfl, Nat.le_of_ble_eq_true rfl⟩) ⟨zBlind zEn_ok, va_recv hK hP (ci := 4) (q0 := 0) rfl rfl, zAt (av := [.ref h]) zEn_ok hP hD hK hS hA hE [0, 1, 2, 3, 4] rfl (by decide)⟩ rfl rfl hl.1 rfl (lv_room (Nat.le_of_ble_eq_true rfl)) dX4_placeOfRow_8 ⟨Nat.zero_le _, Nat.zero_le _⟩) hP hD hS hA rfl (fun _ => rfl) (fun u8 H locs w8 hP hD hS => ?_)
    have hP : va_P D vwCl [(h, .inr (4, [.ref G, .ref ro, .ref od, .int (nI 1)])), (G, .inr (0, [.ref ga, .int (nI n)])), (ga, .inl (cI, 96, .inl (fun jj => nI (g jj)))), (ro, .inl (cI, 97, .inl (fun jj => nI (u8.1 jj)))), (od, .inl (cI, 97, .inl (fun jj => nI (u8.2 jj))))] H := hP
    have hD : va_D A [(h, .inr (4, [.ref G, .ref ro, .ref od, .int (nI 1)])), (G, .inr (0, [.ref ga, .int (nI n)])), (ga, .inl (cI, 96, .inl (fun jj => nI (g jj)))), (ro, .inl (cI, 97, .inl (fun jj => nI (u8.1 jj)))), (od, .inl (cI, 97, .inl (fun jj => nI (u8.2 jj))))] := hD
    refine lv_aload_n hx hb dX4_placeOfRow_11 rfl (lv_at hl 0 rfl) ?_
    refine va_get (D := D) (ci := 4) (v := .ref od) (C := RX4) (T := TX4) (N := 4) hx hb hts (fun w h => List.mem_cons_of_mem _ (inUX4 w h)) hown hK hP 0 rfl rfl 2 (by decide) (hts _ (List.mem_cons_of_mem _ mw_73)) (fun _ h9 => h9) rfl dX4_placeOfRow_12 ?_
    refine lv_iload_n hx hb dX4_placeOfRow_15 rfl (lv_at hl 1 rfl) ?_
    refine zz_iald (k := i) (f := u8.2) hx hb hK hP 4 0 rfl rfl (by omega) (by omega) dX4_placeOfRow_16 ?_
    exact zIret hC hS u8 ⟨rfl, w8⟩ hP (vp_nar_int _) dX4_placeOfRow_17
set_option maxHeartbeats 4000000 in
set_option maxRecDepth 100000 in
theorem k_symbolBefore (l : Launch) (D : va_G) (cI cC : ClassId)  (h G ro od so ga n : Nat) (i : Nat) (g f0 o0 : Nat → Nat) (hn : n ≤ 96) (hg : ∀ i, g i ≤ 4) (hi : i ≤ n) (hso : so = 0 ∨ (so = 1 ∧ zord n g o0)) (sz : Nat) : Met l yX4_symbolBefore wsX4_symbolBefore ({ frames := 3, cells := 0, slots := 0, locals := 69 } : Room) (zPre zEn D vwCl [(cI, .int), (cC, .char)] [.ref h, .int (nI i)] [(h, .inr (4, [.ref G, .ref ro, .ref od, .int (nI so)])), (G, .inr (0, [.ref ga, .int (nI n)])), (ga, .inl (cI, 96, .inl (fun jj => nI (g jj)))), (ro, .inl (cI, 97, .inl (fun jj => nI (f0 jj)))), (od, .inl (cI, 97, .inl (fun jj => nI (o0 jj))))] sz) (va_Qi (fun (rv : Int32) (uu : (Nat → Nat) × (Nat → Nat)) => rv = nI (zsb g (uu.2 i)) ∧ zord n g uu.2) (fun (uu : (Nat → Nat) × (Nat → Nat)) t9 => va_P D vwCl ([(h, .inr (4, [.ref G, .ref ro, .ref od, .int (nI 1)])), (G, .inr (0, [.ref ga, .int (nI n)])), (ga, .inl (cI, 96, .inl (fun jj => nI (g jj)))), (ro, .inl (cI, 97, .inl (fun jj => nI (uu.1 jj)))), (od, .inl (cI, 97, .inl (fun jj => nI (uu.2 jj))))]) t9.heap) (va_A [(h, .inr (4, [.ref G, .ref ro, .ref od, .int (nI so)])), (G, .inr (0, [.ref ga, .int (nI n)])), (ga, .inl (cI, 96, .inl (fun jj => nI (g jj)))), (ro, .inl (cI, 97, .inl (fun jj => nI (f0 jj)))), (od, .inl (cI, 97, .inl (fun jj => nI (o0 jj))))] sz)) 0 0 (va_A [(h, .inr (4, [.ref G, .ref ro, .ref od, .int (nI so)])), (G, .inr (0, [.ref ga, .int (nI n)])), (ga, .inl (cI, 96, .inl (fun jj => nI (g jj)))), (ro, .inl (cI, 97, .inl (fun jj => nI (f0 jj)))), (od, .inl (cI, 97, .inl (fun jj => nI (o0 jj))))] sz) := by
  refine zMet (cc := cX4_symbolBefore) (maxL := 3) (ret := (some .int)) (Qc := fun A => (va_Qi (fun (rv : Int32) (uu : (Nat → Nat) × (Nat → Nat)) => rv = nI (zsb g (uu.2 i)) ∧ zord n g uu.2) (fun (uu : (Nat → Nat) × (Nat → Nat)) t9 => va_P D vwCl ([(h, .inr (4, [.ref G, .ref ro, .ref od, .int (nI 1)])), (G, .inr (0, [.ref ga, .int (nI n)])), (ga, .inl (cI, 96, .inl (fun jj => nI (g jj)))), (ro, .inl (cI, 97, .inl (fun jj => nI (uu.1 jj)))), (od, .inl (cI, 97, .inl (fun jj => nI (uu.2 jj))))]) t9.heap) A)) (by decide) rfl (Nat.le_of_ble_eq_true rfl) ?_
  intro pr en s0 mi bl me co A hC hA hK hE H locs hP hD hS ls hl
  obtain ⟨hx, hb, hr, hml, hown, hts, hlocks, hin⟩ := id hC
  have hl : lv_has ls 3 [(0, .ref h), (1, .int (nI i))] := hl
  refine lv_aload_n hx hb dX4_symbolBefore_0 rfl (lv_at hl 0 rfl) ?_
  refine lv_iload_n hx hb dX4_symbolBefore_1 rfl (lv_at hl 1 rfl) ?_
  refine zCi (is := [0, 1, 2, 3, 4]) (wf := (fun (uu : (Nat → Nat) × (Nat → Nat)) => ([(h, .inr (4, [.ref G, .ref ro, .ref od, .int (nI 1)])), (G, .inr (0, [.ref ga, .int (nI n)])), (ga, .inl (cI, 96, .inl (fun jj => nI (g jj)))), (ro, .inl (cI, 97, .inl (fun jj => nI (uu.1 jj)))), (od, .inl (cI, 97, .inl (fun jj => nI (uu.2 jj))))] : va_W))) (va_runV (As := [.int (nI i)]) (rest := []) ⟨hx, hb, hml, hown, hts⟩ (k_placeOfRow l D cI cC  h G ro od so ga n i g f0 o0 (by omega) hg (by omega) hso H.size) (cwV 1 hts (zgood mw_255 mw_236 mw_237 mw_28 mw_238) rfl rfl rfl (by decide +kernel) ⟨Nat.le_of_ble_eq_true rfl, Nat.le_of_ble_eq_true rfl⟩) ⟨zBlind zEn_ok, va_recv hK hP (ci := 4) (q0 := 0) rfl rfl, zAt (av := [.ref h, .int (nI i)]) zEn_ok hP hD hK hS hA hE [0, 1, 2, 3, 4] rfl (by decide)⟩ rfl rfl hl.1 rfl (lv_room (Nat.le_of_ble_eq_true rfl)) dX4_symbolBefore_2 ⟨Nat.zero_le _, Nat.zero_le _⟩) hP hD hS hA rfl (fun _ => rfl) (fun r2 u2 H locs w2 hP hD hS => ?_)
  obtain ⟨rfl, w2⟩ := w2
  have hP : va_P D vwCl [(h, .inr (4, [.ref G, .ref ro, .ref od, .int (nI 1)])), (G, .inr (0, [.ref ga, .int (nI n)])), (ga, .inl (cI, 96, .inl (fun jj => nI (g jj)))), (ro, .inl (cI, 97, .inl (fun jj => nI (u2.1 jj)))), (od, .inl (cI, 97, .inl (fun jj => nI (u2.2 jj))))] H := hP
  have hD : va_D A [(h, .inr (4, [.ref G, .ref ro, .ref od, .int (nI 1)])), (G, .inr (0, [.ref ga, .int (nI n)])), (ga, .inl (cI, 96, .inl (fun jj => nI (g jj)))), (ro, .inl (cI, 97, .inl (fun jj => nI (u2.1 jj)))), (od, .inl (cI, 97, .inl (fun jj => nI (u2.2 jj))))] := hD
  have e1 := (zord_at hg hn w2 hi).1
  refine lv_istore_n (lv' := [(2, .int (nI (u2.2 i))), (0, .ref h), (1, .int (nI i))]) hx hb dX4_symbolBefore_5 rfl hl (by decide) rfl (fun ls hl => ?_)
  refine lv_iload_n hx hb dX4_symbolBefore_6 rfl (lv_at hl 0 rfl) ?_
  refine zz_ne0 (tgt := 14) hx hb dX4_symbolBefore_7 (by decide) (by omega) (fun c7 => ?_) (fun c7 => ?_)
  · skip
    refine lv_aload_n hx hb dX4_symbolBefore_14 rfl (lv_at hl 1 rfl) ?_
    refine va_get (D := D) (ci := 4) (v := .ref G) (C := RX4) (T := TX4) (N := 4) hx hb hts (fun w h => List.mem_cons_of_mem _ (inUX4 w h)) hown hK hP 0 rfl rfl 0 (by decide) (hts _ (List.mem_cons_of_mem _ mw_71)) (fun _ h9 => h9) rfl dX4_symbolBefore_15 ?_
    refine va_getN (D := D) (ci := 0) (v := .ref ga) (C := RX0) (T := TX0) (N := 2) hx hb hts (fun w h => List.mem_cons_of_mem _ (inUX0 w h)) hown hK hP 1 rfl rfl 0 (by decide) (va_Nw.use rfl (hE.1 ("StrandMapper$SortedSuffixes", 43, "StrandMapper$Bases", "symbols", "[I", "StrandMapper") (by decide +kernel))) (fun _ h9 => h9) rfl dX4_symbolBefore_18 ?_
    refine lv_iload_n hx hb dX4_symbolBefore_21 rfl (lv_at hl 0 rfl) ?_
    refine lv_iconst (v := nI 1) hx hb dX4_symbolBefore_22 (by decide) ?_
    refine lv_isub hx hb dX4_symbolBefore_23 ?_
    refine zz_top (y := nI ((u2.2 i) - 1)) (pk_sub (by omega)) ?_
    refine zz_iald (k := (u2.2 i) - 1) (f := g) hx hb hK hP 2 0 rfl rfl (by omega) (by omega) dX4_symbolBefore_24 ?_
    exact zIret hC hS u2 ⟨congrArg nI (by unfold zsb; first | rw [if_pos c7] | rw [if_neg c7]), w2⟩ hP (vp_nar_int _) dX4_symbolBefore_25
  · skip
    refine lv_iconst (v := nI 5) hx hb dX4_symbolBefore_10 (by decide) ?_
    refine lv_goto (tgt := 25) hx hb dX4_symbolBefore_11 (by decide) ?_
    exact zIret hC hS u2 ⟨congrArg nI (by unfold zsb; first | rw [if_pos c7] | rw [if_neg c7]), w2⟩ hP (vp_nar_int _) dX4_symbolBefore_25
