/-! PURE, third part: the list of hits as it grows; lengths of texts -/
theorem zlen1 {α : Type} (T : List α) (x : α) : (T ++ [x]).length = T.length + 1 := by simp
/-- the primary, as the field holds it -/
def zprI (LL : List (Nat × Nat × Nat)) : Int32 := if LL.length = 0 then -1 else nI (zpri (zmF LL) LL.length)
theorem zprI_pos {LL : List (Nat × Nat × Nat)} (h : ¬ LL.length = 0) : zprI LL = nI (zpri (zmF LL) LL.length) := if_neg h
theorem zprI_nil {LL : List (Nat × Nat × Nat)} (h : LL.length = 0) : zprI LL = -1 := if_pos h
theorem zmF_in {LL : List (Nat × Nat × Nat)} {x : Nat × Nat × Nat} {i : Nat} (h : i < LL.length) : zmF (LL ++ [x]) i = zmF LL i := by unfold zmF; rw [zat_in h]
theorem zmF_end (LL : List (Nat × Nat × Nat)) (x : Nat × Nat × Nat) : zmF (LL ++ [x]) LL.length = x.2.2 := by unfold zmF; rw [zat_end]
theorem zpri_app (LL : List (Nat × Nat × Nat)) (x : Nat × Nat × Nat) : zpri (zmF (LL ++ [x])) (LL.length + 1) = if LL.length = 0 ∨ x.2.2 < zmF LL (zpri (zmF LL) LL.length) then LL.length else zpri (zmF LL) LL.length := by
  have e := zpri_congr LL.length (m := zmF (LL ++ [x])) (m' := zmF LL) (fun j hj => zmF_in hj)
  rw [zpri, e, zmF_end]
  by_cases z : LL.length = 0
  · rw [if_pos (Or.inl z), if_pos (Or.inl z)]
  · rw [zmF_in (zpri_lt (zmF LL) LL.length (by omega))]
theorem zag_app (LL : List (Nat × Nat × Nat)) (x : Nat × Nat × Nat) : zag (zmF (LL ++ [x])) (LL.length + 1) = if LL.length = 0 ∨ x.2.2 < zmF LL (zpri (zmF LL) LL.length) then 0 else if x.2.2 = zmF LL (zpri (zmF LL) LL.length) then zag (zmF LL) LL.length + 1 else zag (zmF LL) LL.length := by
  have e := zpri_congr LL.length (m := zmF (LL ++ [x])) (m' := zmF LL) (fun j hj => zmF_in hj)
  have e2 := zag_congr LL.length (m := zmF (LL ++ [x])) (m' := zmF LL) (fun j hj => zmF_in hj)
  rw [zag, e, e2, zmF_end]
  by_cases z : LL.length = 0
  · rw [if_pos (Or.inl z), if_pos (Or.inl z)]
  · rw [zmF_in (zpri_lt (zmF LL) LL.length (by omega))]
theorem zprI_new {LL : List (Nat × Nat × Nat)} {x : Nat × Nat × Nat} (h : LL.length = 0 ∨ x.2.2 < zmF LL (zpri (zmF LL) LL.length)) : zprI (LL ++ [x]) = nI LL.length := by
  unfold zprI
  rw [zlen1, if_neg (by omega), zpri_app, if_pos h]
theorem zprI_old {LL : List (Nat × Nat × Nat)} {x : Nat × Nat × Nat} (h0 : ¬ LL.length = 0) (h : ¬ x.2.2 < zmF LL (zpri (zmF LL) LL.length)) : zprI (LL ++ [x]) = zprI LL := by
  unfold zprI
  rw [zlen1, if_neg (by omega), zpri_app, if_neg (by omega), if_neg h0]
theorem zag_new {LL : List (Nat × Nat × Nat)} {x : Nat × Nat × Nat} (h : LL.length = 0 ∨ x.2.2 < zmF LL (zpri (zmF LL) LL.length)) : zag (zmF (LL ++ [x])) (LL ++ [x]).length = 0 := by
  rw [zlen1, zag_app, if_pos h]
theorem zag_eq {LL : List (Nat × Nat × Nat)} {x : Nat × Nat × Nat} (h0 : ¬ LL.length = 0) (h : x.2.2 = zmF LL (zpri (zmF LL) LL.length)) : zag (zmF (LL ++ [x])) (LL ++ [x]).length = zag (zmF LL) LL.length + 1 := by
  rw [zlen1, zag_app, if_neg (by omega), if_pos h]
theorem zag_ne {LL : List (Nat × Nat × Nat)} {x : Nat × Nat × Nat} (h0 : ¬ LL.length = 0) (h1 : ¬ x.2.2 < zmF LL (zpri (zmF LL) LL.length)) (h : ¬ x.2.2 = zmF LL (zpri (zmF LL) LL.length)) : zag (zmF (LL ++ [x])) (LL ++ [x]).length = zag (zmF LL) LL.length := by
  rw [zlen1, zag_app, if_neg (by omega), if_neg h]
theorem zprI_lt {LL : List (Nat × Nat × Nat)} (hl : LL.length ≤ 192) : zprI LL < 0 ↔ LL.length = 0 := by
  constructor
  · intro h
    rcases Nat.eq_zero_or_pos LL.length with z | z
    · exact z
    · have := zpri_lt (zmF LL) LL.length z
      rw [zprI_pos (by omega)] at h
      exact absurd h (nI_pos (by omega))
  · intro h
    rw [zprI_nil h]
    decide
theorem zprI_at {LL : List (Nat × Nat × Nat)} (hl : LL.length ≤ 192) {i : Nat} (hi : i < LL.length) : nI i = zprI LL ↔ i = zpri (zmF LL) LL.length := by
  have := zpri_lt (zmF LL) LL.length (by omega)
  rw [zprI_pos (by omega)]
  exact nI_eq (by omega) (by omega)
/-- every hit's place has room, its strand is 0 or 1, its mismatches are few -/
def zok (n w b : Nat) (LL : List (Nat × Nat × Nat)) : Prop := ∀ i, i < LL.length → (zat LL i).1 + w ≤ n ∧ (zat LL i).2.1 ≤ 1 ∧ (zat LL i).2.2 ≤ b
theorem zok_put {n w b : Nat} {LL : List (Nat × Nat × Nat)} {x : Nat × Nat × Nat} (h : zok n w b LL) (h1 : x.1 + w ≤ n) (h2 : x.2.1 ≤ 1) (h3 : x.2.2 ≤ b) : zok n w b (LL ++ [x]) := by
  intro i hi
  by_cases e : i = LL.length
  · subst e
    rw [zat_end]
    exact ⟨h1, h2, h3⟩
  · have h4 : i < LL.length := by rw [zlen1] at hi; omega
    rw [zat_in h4]
    exact h i h4
theorem zok_mF {n w b : Nat} {LL : List (Nat × Nat × Nat)} (h : zok n w b LL) {i : Nat} (hi : i < LL.length) : zmF LL i ≤ b := (h i hi).2.2
theorem zh1_yes {g r : Nat → Nat} {w b p s : Nat} (h : zmm g (zsy w r s) p w ≤ b) : zh1 g r w b p s = [(p, s, zmm g (zsy w r s) p w)] := if_pos h
theorem zh1_no {g r : Nat → Nat} {w b p s : Nat} (h : ¬ zmm g (zsy w r s) p w ≤ b) : zh1 g r w b p s = [] := if_neg h
/-- the hits up to a place, and the first s strands there -/
def zhs (g r : Nat → Nat) (w b p : Nat) : Nat → List (Nat × Nat × Nat)
  | 0 => zhits g r w b p
  | s + 1 => zhs g r w b p s ++ zh1 g r w b p s
theorem zhs_2 (g r : Nat → Nat) (w b p : Nat) : zhs g r w b p 2 = zhits g r w b (p + 1) := rfl
theorem zhs_len (g r : Nat → Nat) (w b p : Nat) : ∀ s, (zhs g r w b p s).length ≤ 2 * p + s
  | 0 => zhits_len g r w b p
  | s + 1 => by
    have h := zhs_len g r w b p s
    have h1 := zh1_len g r w b p s
    simp only [zhs, List.length_append]
    omega
theorem zdg_len (n : Nat) : ∀ j b, (zdg n j b).length ≤ j
  | 0, _ => Nat.le_refl _
  | j + 1, b => by
    have h1 := zdg_len n j true
    have h2 := zdg_len n j false
    unfold zdg
    split
    · simp only [List.length_cons]; omega
    · omega
theorem znum_len (n : Nat) : (znum n).length ≤ 10 := zdg_len n 10 false
theorem zbs_len (r : Nat → Nat) : ∀ k, (zbs r k).length = k
  | 0 => rfl
  | k + 1 => by simp only [zbs, List.length_append, zbs_len r k, List.length_cons, List.length_nil]
theorem zdf_len (g r : Nat → Nat) (p : Nat) : ∀ k, (zdf g r p k).2.length ≤ 11 * k
  | 0 => Nat.le_refl _
  | k + 1 => by
    have h := zdf_len g r p k
    have h2 := znum_len (zdf g r p k).1
    by_cases c : g (p + k) = r k
    · rw [zdf_t c]; show (zdf g r p k).2.length ≤ _; omega
    · rw [zdf_f c]
      simp only [List.length_append, List.length_cons, List.length_nil]
      omega
theorem zdif_len (g r : Nat → Nat) (p w : Nat) : (zdif g r p w).length ≤ 11 * w + 10 := by
  have h := zdf_len g r p w
  have h2 := znum_len (zdf g r p w).1
  unfold zdif
  rw [List.length_append]
  omega
theorem zlet_lt (b : Nat) : zlet b < 128 := by
  unfold zlet
  split <;> decide
theorem zdg_lt (n : Nat) : ∀ j b, ∀ x ∈ zdg n j b, x < 128
  | 0, _, x, h => by cases h
  | j + 1, b, x, h => by
    unfold zdg at h
    split at h
    · rcases List.mem_cons.mp h with e | e
      · have := Nat.mod_lt (n / 10 ^ j) (show 10 > 0 by decide)
        omega
      · exact zdg_lt n j true x e
    · exact zdg_lt n j false x h
/-- the powers of ten, and 0 behind them -/
def zpw : Nat → Nat
  | 0 => 0
  | j + 1 => 10 ^ j
theorem zpw_div (j : Nat) : 10 ^ j / 10 = zpw j := by
  cases j with
  | zero => rfl
  | succ j => rw [Nat.pow_succ, Nat.mul_div_cancel _ (by decide)]; rfl
theorem zdg_true (n j : Nat) : zdg n (j + 1) true = (48 + n / 10 ^ j % 10) :: zdg n j true := by
  rw [zdg, if_pos (Or.inl rfl)]
theorem zgetD_lt {T : List Nat} (h : ∀ x ∈ T, x < 128) (k : Nat) : T.getD k 0 < 128 := by
  rcases Nat.lt_or_ge k T.length with q | q
  · rw [List.getD_eq_getElem?_getD, List.getElem?_eq_getElem q]
    exact h _ (List.getElem_mem q)
  · rw [List.getD_eq_getElem?_getD, List.getElem?_eq_none q]
    decide
/-- one strand at one place -/
def zt1 (g q : Nat → Nat) (w b p t : Nat) : List (Nat × Nat × Nat) := if zmm g q p w ≤ b then [(p, t, zmm g q p w)] else []
theorem zt1_len (g q : Nat → Nat) (w b p t : Nat) : (zt1 g q w b p t).length ≤ 1 := by
  unfold zt1
  split <;> simp
theorem zt1_0 (g r : Nat → Nat) (w b p : Nat) : zt1 g r w b p 0 = zh1 g r w b p 0 := by
  unfold zt1 zh1
  rw [show zsy w r 0 = r from funext (fun k => if_pos rfl)]
theorem zt1_1 {g r tt : Nat → Nat} {w : Nat} (h : ∀ i, i < w → tt i = 3 - r (w - 1 - i)) (b p : Nat) : zt1 g tt w b p 1 = zh1 g r w b p 1 := by
  have e : zmm g tt p w = zmm g (zsy w r 1) p w := zmm_congr (fun i hi => by rw [h i hi]; exact (if_neg (by decide)).symm)
  unfold zt1 zh1
  rw [e]
theorem zrm_iff {n w : Nat} (hw : 0 < w) (k : Nat) : k < zrm n w ↔ k + w ≤ n := by
  unfold zrm
  split <;> omega
/-- characters of seven bits -/
def zlt (L : List Nat) : Prop := ∀ x ∈ L, x < 128
theorem zlt_app {L M : List Nat} (h : zlt L) (k : zlt M) : zlt (L ++ M) := fun x hx => (List.mem_append.mp hx).elim (h x) (k x)
theorem zlt_num (n : Nat) : zlt (znum n) := zdg_lt n 10 false
theorem zlt_bs (r : Nat → Nat) : ∀ k, zlt (zbs r k)
  | 0 => fun x h => by cases h
  | k + 1 => zlt_app (zlt_bs r k) (fun x h => by rw [List.mem_singleton.mp h]; exact zlet_lt _)
theorem zlt_df (g r : Nat → Nat) (p : Nat) : ∀ k, zlt (zdf g r p k).2
  | 0 => fun x h => by cases h
  | k + 1 => by
    by_cases c : g (p + k) = r k
    · rw [zdf_t c]; exact zlt_df g r p k
    · rw [zdf_f c]; exact zlt_app (zlt_app (zlt_df g r p k) (zlt_num _)) (fun x h => by rw [List.mem_singleton.mp h]; exact zlet_lt _)
theorem zlt_dif (g r : Nat → Nat) (p w : Nat) : zlt (zdif g r p w) := zlt_app (zlt_df g r p w) (zlt_num _)
theorem zlt_lit {L : List Nat} (h : L.all (fun x => decide (x < 128)) = true) : zlt L := fun x hx => by
  have := List.all_eq_true.mp h x hx
  simpa using this
theorem zlt_line (g r : Nat → Nat) (w no : Nat) (m : Nat → Nat) (k i : Nat) (x : Nat × Nat × Nat) : zlt (zline g r w no m k i x) := by
  unfold zline
  refine zlt_app (zlt_app (zlt_app (zlt_app (zlt_app (zlt_app (zlt_app (zlt_app (zlt_app (zlt_app (zlt_app (zlt_app (zlt_app (zlt_app (zlt_app (zlt_app (zlt_lit rfl) (zlt_num _)) (zlt_lit rfl)) (zlt_num _)) (zlt_lit rfl)) (zlt_num _)) (zlt_lit rfl)) (zlt_num _)) (zlt_lit rfl)) (zlt_num _)) (zlt_lit rfl)) ?_) (zlt_lit rfl)) (zlt_num _)) (zlt_lit rfl)) (zlt_dif _ _ _ _)) (zlt_lit rfl)
  split
  · exact zlt_bs _ _
  · exact zlt_lit rfl
theorem zlt_lines (g r : Nat → Nat) (w no : Nat) (L : List (Nat × Nat × Nat)) : ∀ k, zlt (zlines g r w no L k)
  | 0 => fun x h => by cases h
  | k + 1 => zlt_app (zlt_lines g r w no L k) (zlt_line _ _ _ _ _ _ _ _)
theorem zlt_text (n : Nat) (g r : Nat → Nat) (w no : Nat) (L : List (Nat × Nat × Nat)) : zlt (ztext n g r w no L) := by
  unfold ztext zhead znone
  refine zlt_app (zlt_app (zlt_app (zlt_lit rfl) (zlt_num _)) (zlt_lit rfl)) ?_
  split
  · exact zlt_app (zlt_app (zlt_app (zlt_app (zlt_lit rfl) (zlt_num _)) (zlt_lit rfl)) (zlt_bs _ _)) (zlt_lit rfl)
  · exact zlt_lines _ _ _ _ _ _
theorem zline_len {g r : Nat → Nat} {w : Nat} (hw : w ≤ 24) (no : Nat) (m : Nat → Nat) (k i : Nat) (x : Nat × Nat × Nat) : (zline g r w no m k i x).length ≤ 700 := by
  have h1 := znum_len no
  have h2 := znum_len ((if x.2.1 = 1 then 16 else 0) + (if i = zpri m k then 0 else 256))
  have h3 := znum_len (x.1 + 1)
  have h4 := znum_len (zqu m k i)
  have h5 := znum_len w
  have h6 := znum_len x.2.2
  have h7 := zdif_len g (zsy w r x.2.1) x.1 w
  have h8 : (if i = zpri m k then zbs (zsy w r x.2.1) w else [42]).length ≤ 24 := by
    split
    · rw [zbs_len]; exact hw
    · decide
  unfold zline
  simp only [List.length_append, List.length_cons, List.length_nil]
  omega
theorem zlines_len {g r : Nat → Nat} {w : Nat} (hw : w ≤ 24) (no : Nat) (L : List (Nat × Nat × Nat)) : ∀ k, (zlines g r w no L k).length ≤ 700 * k
  | 0 => Nat.le_refl _
  | k + 1 => by
    have h := zlines_len (g := g) (r := r) hw no L k
    have h2 := zline_len (g := g) (r := r) hw no (zmF L) L.length k (zat L k)
    simp only [zlines, List.length_append]
    omega
theorem zhead_len (n : Nat) : (zhead n).length ≤ 23 := by
  have := znum_len n
  unfold zhead
  simp only [List.length_append, List.length_cons, List.length_nil]
  omega
theorem znone_len {r : Nat → Nat} {w : Nat} (hw : w ≤ 24) (no : Nat) : (znone r w no).length ≤ 100 := by
  have := znum_len no
  unfold znone
  simp only [List.length_append, List.length_cons, List.length_nil, zbs_len]
  omega
theorem zlines_mono (g r : Nat → Nat) (w no : Nat) (L : List (Nat × Nat × Nat)) {a b : Nat} (h : a ≤ b) : (zlines g r w no L a).length ≤ (zlines g r w no L b).length := by
  induction b with
  | zero => rw [show a = 0 by omega]; exact Nat.le_refl _
  | succ b ih =>
    rcases Nat.lt_or_ge b a with q | q
    · rw [show a = b + 1 by omega]; exact Nat.le_refl _
    · have := ih q
      simp only [zlines, List.length_append]
      omega
theorem zline_congr {g r r' : Nat → Nat} {w : Nat} (h : ∀ i, i < w → r i = r' i) (no : Nat) (m : Nat → Nat) (k i : Nat) (x : Nat × Nat × Nat) : zline g r w no m k i x = zline g r' w no m k i x := by
  have e1 : zbs (zsy w r x.2.1) w = zbs (zsy w r' x.2.1) w := zbs_congr w (fun i hi => zsy_congr hi h)
  have e2 : zdif g (zsy w r x.2.1) x.1 w = zdif g (zsy w r' x.2.1) x.1 w := by
    unfold zdif
    rw [zdf_congr w (fun i hi => zsy_congr hi h)]
  unfold zline
  rw [e1, e2]
theorem zlines_congr {g r r' : Nat → Nat} {w : Nat} (h : ∀ i, i < w → r i = r' i) (no : Nat) (L : List (Nat × Nat × Nat)) : ∀ k, zlines g r w no L k = zlines g r' w no L k
  | 0 => rfl
  | k + 1 => by simp only [zlines]; rw [zlines_congr h no L k, zline_congr h]
theorem ztext_congr {n : Nat} {g r r' : Nat → Nat} {w : Nat} (h : ∀ i, i < w → r i = r' i) (no : Nat) (L : List (Nat × Nat × Nat)) : ztext n g r w no L = ztext n g r' w no L := by
  unfold ztext znone
  rw [zbs_congr w h, zlines_congr h]
theorem zrm_le (n w : Nat) (hw : 0 < w) : zrm n w ≤ n := by
  unfold zrm
  split <;> omega
theorem ztext_len {n : Nat} {g r : Nat → Nat} {w : Nat} (hw : w ≤ 24) (no : Nat) {L : List (Nat × Nat × Nat)} (hL : L.length ≤ 192) : (ztext n g r w no L).length ≤ 200000 := by
  have h1 := zhead_len n
  have h2 := znone_len (r := r) hw no
  have h3 := zlines_len (g := g) (r := r) hw no L L.length
  unfold ztext
  rw [List.length_append]
  split <;> omega
theorem zpow1 (j : Nat) : 10 ^ j = 1 ↔ j = 0 := by
  cases j with
  | zero => simp
  | succ j =>
    have : 0 < 10 ^ j := Nat.pow_pos (by decide)
    rw [Nat.pow_succ]
    omega
theorem zdg_yes {n j : Nat} {b : Bool} (h : b = true ∨ 0 < n / 10 ^ j % 10 ∨ j = 0) : zdg n (j + 1) b = (48 + n / 10 ^ j % 10) :: zdg n j true := by
  rw [zdg, if_pos h]
theorem zdg_no {n j : Nat} {b : Bool} (h : ¬ (b = true ∨ 0 < n / 10 ^ j % 10 ∨ j = 0)) : zdg n (j + 1) b = zdg n j false := by
  rw [zdg, if_neg h]
/-- what stands between the head and the lines -/
def zmid (r : Nat → Nat) (w no : Nat) (L : List (Nat × Nat × Nat)) : List Nat := if L.length = 0 then znone r w no else []
theorem ztext_mid (n : Nat) (g r : Nat → Nat) (w no : Nat) (L : List (Nat × Nat × Nat)) : ztext n g r w no L = zhead n ++ zmid r w no L ++ zlines g r w no L L.length := by
  unfold ztext zmid
  by_cases h : L.length = 0
  · rw [if_pos h, if_pos h, h, show zlines g r w no L 0 = [] from rfl, List.append_nil]
  · rw [if_neg h, if_neg h, List.append_nil]
theorem zmid_len {r : Nat → Nat} {w : Nat} (hw : w ≤ 24) (no : Nat) (L : List (Nat × Nat × Nat)) : (zmid r w no L).length ≤ 100 := by
  have := znone_len (r := r) hw no
  unfold zmid
  split
  · exact this
  · exact Nat.zero_le _
theorem zflag_le (a b : Prop) [Decidable a] [Decidable b] : (if a then 16 else 0) + (if b then 0 else 256) ≤ 272 := by
  split <;> split <;> omega
theorem zqu_le (m : Nat → Nat) (k i : Nat) : zqu m k i ≤ 60 := by
  unfold zqu
  split
  · split
    · omega
    · split
      · omega
      · split <;> omega
  · omega
