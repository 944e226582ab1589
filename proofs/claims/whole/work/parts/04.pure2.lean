/-! PURE, second part: mismatches, hits, the primary, digits, the text -/
theorem zadd {a b c : Nat} (h : a + b = c) : nI a + nI b = nI c := by rw [nI_add, h]
theorem zincE {a c : Nat} (h : a + 1 = c) : nI a + Int32.ofInt 1 = nI c := by rw [← h]; exact nI_1 a
theorem zincE3 {a c : Nat} (h : a + 3 = c) : nI a + Int32.ofInt 3 = nI c := by rw [← h]; exact nI_add a 3
/-- mismatches of the first k bases of r at p -/
def zmm (g r : Nat → Nat) (p k : Nat) : Nat := zcnt (fun i => decide (¬ g (p + i) = r i)) k
theorem zmm_t {g r : Nat → Nat} {p k : Nat} (h : ¬ g (p + k) = r k) : zmm g r p (k + 1) = zmm g r p k + 1 := zcnt_t (by simpa using h)
theorem zmm_f {g r : Nat → Nat} {p k : Nat} (h : g (p + k) = r k) : zmm g r p (k + 1) = zmm g r p k := zcnt_f (by simpa using h)
theorem zmm_0 (g r : Nat → Nat) (p : Nat) : zmm g r p 0 = 0 := rfl
theorem zmm_le (g r : Nat → Nat) (p k : Nat) : zmm g r p k ≤ k := zcnt_le _ k
theorem zmm_mono (g r : Nat → Nat) (p : Nat) {a b : Nat} (h : a ≤ b) : zmm g r p a ≤ zmm g r p b := zcnt_mono _ h
theorem zmm_congr {g r r' : Nat → Nat} {p k : Nat} (h : ∀ i, i < k → r i = r' i) : zmm g r p k = zmm g r' p k := zcnt_congr k (fun i hi => by rw [h i hi])
/-- the first row, among the places under k, at which the read stands -/
def zfst (n : Nat) (g : Nat → Nat) (P : Nat → Prop) (k : Nat) (r : Int32) : Prop := (r = -1 ∧ ∀ p, p < k → ¬ P p) ∨ ∃ p, p < k ∧ P p ∧ r = nI (zbef n g p) ∧ ∀ q, q < k → P q → zbef n g p ≤ zbef n g q
theorem zfst_one {n k : Nat} {g : Nat → Nat} {P : Nat → Prop} {r r' : Int32} (h : zfst n g P k r) (h' : zfst n g P k r') : r = r' := by
  rcases h with ⟨h1, h2⟩ | ⟨p, h1, h2, h3, h4⟩
  · rcases h' with ⟨g1, g2⟩ | ⟨q, g1, g2, g3, g4⟩
    · rw [h1, g1]
    · exact absurd g2 (h2 q g1)
  · rcases h' with ⟨g1, g2⟩ | ⟨q, g1, g2, g3, g4⟩
    · exact absurd h2 (g2 p h1)
    · have a := h4 q g1 g2
      have b := g4 p h1 h2
      rw [h3, g3, Nat.le_antisymm a b]
theorem zfst_congr {n k : Nat} {g : Nat → Nat} {P P' : Nat → Prop} {r : Int32} (h : zfst n g P k r) (e : ∀ p, P p ↔ P' p) : zfst n g P' k r := by
  rcases h with ⟨h1, h2⟩ | ⟨p, h1, h2, h3, h4⟩
  · exact Or.inl ⟨h1, fun p hp q => h2 p hp ((e p).mpr q)⟩
  · exact Or.inr ⟨p, h1, (e p).mp h2, h3, fun q hq z => h4 q hq ((e q).mpr z)⟩
theorem zfst_skip {n k : Nat} {g : Nat → Nat} {P : Nat → Prop} {x : Int32} (h : zfst n g P k x) (hp : ¬ P k) : zfst n g P (k + 1) x := by
  rcases h with ⟨h1, h2⟩ | ⟨p, h1, h2, h3, h4⟩
  · refine Or.inl ⟨h1, fun p hq => ?_⟩
    by_cases e : p = k
    · rw [e]; exact hp
    · exact h2 p (by omega)
  · refine Or.inr ⟨p, by omega, h2, h3, fun q hq hP => ?_⟩
    by_cases e : q = k
    · rw [e] at hP; exact absurd hP hp
    · exact h4 q (by omega) hP
theorem zfst_new {n k : Nat} {g : Nat → Nat} {P : Nat → Prop} {x : Int32} (hn : n ≤ 96) (hk : k < n) (h : zfst n g P k x) (hp : P k) (hc : x < 0 ∨ ¬ x ≤ nI (zbef n g k)) : zfst n g P (k + 1) (nI (zbef n g k)) := by
  refine Or.inr ⟨k, by omega, hp, rfl, fun q hq hP => ?_⟩
  by_cases e : q = k
  · rw [e]; exact Nat.le_refl _
  · rcases h with ⟨h1, h2⟩ | ⟨p, h1, h2, h3, h4⟩
    · exact absurd hP (h2 q (by omega))
    · have b1 := zbef_le (g := g) (show p ≤ n by omega)
      have b2 := zbef_le (g := g) (show k ≤ n by omega)
      have b3 := h4 q (by omega) hP
      rcases hc with hc | hc
      · rw [h3] at hc
        exact absurd hc (nI_pos (by omega))
      · rw [h3, nI_leI (by omega) (by omega)] at hc
        omega
theorem zfst_old {n k : Nat} {g : Nat → Nat} {P : Nat → Prop} {x : Int32} (hn : n ≤ 96) (hk : k < n) (h : zfst n g P k x) (c1 : ¬ x < 0) (c2 : x ≤ nI (zbef n g k)) : zfst n g P (k + 1) x := by
  rcases h with ⟨h1, h2⟩ | ⟨p, h1, h2, h3, h4⟩
  · rw [h1] at c1
    exact absurd (by decide) c1
  · have b1 := zbef_le (g := g) (show p ≤ n by omega)
    have b2 := zbef_le (g := g) (show k ≤ n by omega)
    rw [h3, nI_leI (by omega) (by omega)] at c2
    refine Or.inr ⟨p, by omega, h2, h3, fun q hq hP => ?_⟩
    by_cases e : q = k
    · rw [e]; exact c2
    · exact h4 q (by omega) hP
theorem zrng {i : Int32} {n : Nat} (h : 0 ≤ i ∧ i < nI (n + 1)) (hn : n ≤ 96) : ∃ k, k ≤ n ∧ i = nI k := by
  rcases pk_ix i (n := n + 1) (by omega) with q | q | ⟨j, hj, rfl⟩
  · exact absurd q (Int32.not_lt.mpr h.1)
  · exact absurd h.2 (Int32.not_lt.mpr q)
  · exact ⟨j, by omega, rfl⟩
theorem zsb_le {g : Nat → Nat} (hg : ∀ i, g i ≤ 4) (p : Nat) : zsb g p ≤ 5 := by
  have := hg (p - 1)
  unfold zsb
  split <;> omega
theorem zrank_s {n : Nat} {g : Nat → Nat} (F : Nat → Bool) (hg : ∀ i, g i ≤ 4) (hn : n ≤ 96) {k p0 : Nat} (h1 : p0 ≤ n) (h2 : zbef n g p0 = k) : zcnt (fun p => F p && decide (zbef n g p < k + 1)) (n + 1) = zcnt (fun p => F p && decide (zbef n g p < k)) (n + 1) + (if F p0 = true then 1 else 0) := by
  have hs : zcnt (fun p => F p && decide (zbef n g p < k + 1)) (n + 1) = zcnt (fun p => F p && decide (zbef n g p < k)) (n + 1) + zcnt (fun p => F p && decide (p = p0)) (n + 1) := by
    refine zcnt_add (n + 1) (fun p hp => ?_)
    have e : (zbef n g p = k) ↔ p = p0 := by
      constructor
      · intro q
        exact zbef_inj hg hn (by omega) h1 (by rw [q, h2])
      · intro q
        rw [q, h2]
    simp only [Bool.and_eq_true, decide_eq_true_eq]
    by_cases f : F p = true
    · by_cases c : zbef n g p < k
      · rw [if_pos ⟨f, by omega⟩, if_pos ⟨f, c⟩, if_neg (fun q => by have := e.mpr q.2; omega)]
      · by_cases d : p = p0
        · rw [if_pos ⟨f, by have := e.mpr d; omega⟩, if_neg (fun q => c q.2), if_pos ⟨f, d⟩]
        · rw [if_neg (fun q => d (e.mp (by have := q.2; omega))), if_neg (fun q => c q.2), if_neg (fun q => d q.2)]
    · rw [if_neg (fun q => f q.1), if_neg (fun q => f q.1), if_neg (fun q => f q.1)]
  rw [hs]
  by_cases f : F p0 = true
  · rw [if_pos f, zcnt_one (P := fun p => F p && decide (p = p0)) (j := p0) (n + 1) (by omega) (fun p hp => by
      simp only [Bool.and_eq_true, decide_eq_true_eq]
      constructor
      · intro q; exact q.2
      · intro q; rw [q]; exact ⟨f, rfl⟩)]
  · rw [if_neg f, zcnt_none (P := fun p => F p && decide (p = p0)) (n + 1) (fun p hp => by
      simp only [Bool.and_eq_true, decide_eq_true_eq]
      intro q
      rw [q.2] at q
      exact f q.1)]
/-- what hit answers -/
def zhit (pl sl ml : Nat → Nat) (ch : Int32) (i t : Nat) : Int32 := if t = 0 then nI (pl i) else if t = 1 then nI (sl i) else if t = 2 then nI (ml i) else if nI i = ch then nI 1 else nI 0
/-- the base of a strand -/
def zsy (w : Nat) (r : Nat → Nat) (s k : Nat) : Nat := if s = 0 then r k else 3 - r (w - 1 - k)
theorem zsy_congr {w : Nat} {r r' : Nat → Nat} {s k : Nat} (hk : k < w) (h : ∀ i, i < w → r i = r' i) : zsy w r s k = zsy w r' s k := by
  unfold zsy
  rw [h k hk, h (w - 1 - k) (by omega)]
theorem zsy_le {w : Nat} {r : Nat → Nat} {t k : Nat} (hr3 : ∀ i, i < w → r i ≤ 3) (hk : k < w) : zsy w r t k ≤ 3 := by
  have h1 := hr3 k hk
  have h2 := hr3 (w - 1 - k) (by omega)
  unfold zsy
  split <;> omega
/-- the hits: place, strand, mismatches -/
def zh1 (g r : Nat → Nat) (w b p s : Nat) : List (Nat × Nat × Nat) := if zmm g (zsy w r s) p w ≤ b then [(p, s, zmm g (zsy w r s) p w)] else []
def zhits (g r : Nat → Nat) (w b : Nat) : Nat → List (Nat × Nat × Nat)
  | 0 => []
  | p + 1 => zhits g r w b p ++ zh1 g r w b p 0 ++ zh1 g r w b p 1
theorem zh1_len (g r : Nat → Nat) (w b p s : Nat) : (zh1 g r w b p s).length ≤ 1 := by
  unfold zh1
  split <;> simp
theorem zhits_len (g r : Nat → Nat) (w b : Nat) : ∀ p, (zhits g r w b p).length ≤ 2 * p
  | 0 => Nat.le_refl _
  | p + 1 => by
    have h := zhits_len g r w b p
    have h0 := zh1_len g r w b p 0
    have h1 := zh1_len g r w b p 1
    simp only [zhits, List.length_append]
    omega
theorem zh1_congr {g r r' : Nat → Nat} {w b p s : Nat} (h : ∀ i, i < w → r i = r' i) : zh1 g r w b p s = zh1 g r' w b p s := by
  have e : zmm g (zsy w r s) p w = zmm g (zsy w r' s) p w := zmm_congr (fun i hi => zsy_congr hi h)
  unfold zh1
  rw [e]
theorem zhits_congr {g r r' : Nat → Nat} {w b : Nat} (h : ∀ i, i < w → r i = r' i) : ∀ p, zhits g r w b p = zhits g r' w b p
  | 0 => rfl
  | p + 1 => by simp only [zhits]; rw [zhits_congr h p, zh1_congr h, zh1_congr h]
/-- how many places have room -/
def zrm (n w : Nat) : Nat := if w ≤ n then n + 1 - w else 0
/-- the primary of k hits with mismatches m: the first of the least -/
def zpri (m : Nat → Nat) : Nat → Nat
  | 0 => 0
  | k + 1 => if k = 0 ∨ m k < m (zpri m k) then k else zpri m k
/-- how many others are as good -/
def zag (m : Nat → Nat) : Nat → Nat
  | 0 => 0
  | k + 1 => if k = 0 ∨ m k < m (zpri m k) then 0 else if m k = m (zpri m k) then zag m k + 1 else zag m k
theorem zpri_lt (m : Nat → Nat) : ∀ k, 0 < k → zpri m k < k
  | 0, h => absurd h (Nat.lt_irrefl 0)
  | k + 1, _ => by
    unfold zpri
    by_cases c : k = 0 ∨ m k < m (zpri m k)
    · rw [if_pos c]; omega
    · rw [if_neg c]
      have := zpri_lt m k (by omega)
      omega
theorem zpri_min (m : Nat → Nat) : ∀ k j, j < k → m (zpri m k) ≤ m j
  | 0, _, h => absurd h (Nat.not_lt_zero _)
  | k + 1, j, h => by
    unfold zpri
    by_cases c : k = 0 ∨ m k < m (zpri m k)
    · rw [if_pos c]
      by_cases e : j = k
      · rw [e]; exact Nat.le_refl _
      · have := zpri_min m k j (by omega)
        omega
    · rw [if_neg c]
      by_cases e : j = k
      · rw [e]; omega
      · exact zpri_min m k j (by omega)
theorem zpri_congr {m m' : Nat → Nat} : ∀ k, (∀ j, j < k → m j = m' j) → zpri m k = zpri m' k
  | 0, _ => rfl
  | k + 1, h => by
    have e := zpri_congr k (fun j hj => h j (by omega))
    unfold zpri
    by_cases z : k = 0
    · rw [if_pos (Or.inl z), if_pos (Or.inl z)]
    · have h1 := zpri_lt m' k (by omega)
      rw [e, h k (by omega), h (zpri m' k) (by omega)]
theorem zag_congr {m m' : Nat → Nat} : ∀ k, (∀ j, j < k → m j = m' j) → zag m k = zag m' k
  | 0, _ => rfl
  | k + 1, h => by
    have e := zpri_congr k (fun j hj => h j (by omega))
    have e2 := zag_congr k (fun j hj => h j (by omega))
    unfold zag
    by_cases z : k = 0
    · rw [if_pos (Or.inl z), if_pos (Or.inl z)]
    · have h1 := zpri_lt m' k (by omega)
      rw [e, e2, h k (by omega), h (zpri m' k) (by omega)]
theorem zag_cnt (m : Nat → Nat) : ∀ k, 0 < k → zcnt (fun j => decide (m j = m (zpri m k))) k = zag m k + 1
  | 0, h => absurd h (Nat.lt_irrefl 0)
  | k + 1, _ => by
    by_cases c : k = 0 ∨ m k < m (zpri m k)
    · have e1 : zpri m (k + 1) = k := by rw [zpri, if_pos c]
      have e2 : zag m (k + 1) = 0 := by rw [zag, if_pos c]
      rw [e1, e2, zcnt_t (by simp), zcnt_none k (fun i hi => by
        have := zpri_min m k i hi
        simp only [decide_eq_true_eq]
        omega)]
    · have e1 : zpri m (k + 1) = zpri m k := by rw [zpri, if_neg c]
      have e2 : zag m (k + 1) = if m k = m (zpri m k) then zag m k + 1 else zag m k := by rw [zag, if_neg c]
      have h1 := zag_cnt m k (by omega)
      rw [e1, e2]
      by_cases d : m k = m (zpri m k)
      · rw [zcnt_t (by simpa using d), h1, if_pos d]
      · rw [zcnt_f (by simpa using d), h1, if_neg d]
/-- the quality of hit i of k -/
def zqu (m : Nat → Nat) (k i : Nat) : Nat := if i = zpri m k then (if k = 1 then 60 else if zag m k = 0 then 40 else if zag m k = 1 then 3 else 0) else 0
/-- the digits of n from the j-th power down; b: one has been written -/
def zdg (n : Nat) : Nat → Bool → List Nat
  | 0, _ => []
  | j + 1, b => if b = true ∨ 0 < n / 10 ^ j % 10 ∨ j = 0 then (48 + n / 10 ^ j % 10) :: zdg n j true else zdg n j false
def znum (n : Nat) : List Nat := zdg n 10 false
theorem zdg_skip {n t : Nat} (h : n / 10 ^ t < 10) (ht : t = 0 ∨ 10 ≤ n / 10 ^ (t - 1)) : ∀ k, zdg n (t + 1 + k) false = zdg n (t + 1) true
  | 0 => by
    show zdg n (t + 1) false = zdg n (t + 1) true
    unfold zdg
    rw [if_pos, if_pos (Or.inl rfl)]
    rcases ht with ht | ht
    · exact Or.inr (Or.inr ht)
    · refine Or.inr (Or.inl ?_)
      have h1 : 0 < n / 10 ^ t := by
        cases t with
        | zero => omega
        | succ t =>
          have h2 : 10 ≤ n / 10 ^ t := by simpa using ht
          rw [Nat.pow_succ, ← Nat.div_div_eq_div_mul]
          omega
      rw [Nat.mod_eq_of_lt h]
      exact h1
  | k + 1 => by
    show zdg n (t + 1 + k + 1) false = _
    have h0 : n / 10 ^ (t + 1 + k) = 0 := by
      have e : 10 ^ (t + 1 + k) = 10 ^ t * (10 * 10 ^ k) := by rw [Nat.pow_add, Nat.pow_add, Nat.pow_one, Nat.mul_assoc]
      rw [e, ← Nat.div_div_eq_div_mul]
      refine Nat.div_eq_of_lt ?_
      have : 0 < 10 ^ k := Nat.pow_pos (by decide)
      omega
    have e : zdg n (t + 1 + k + 1) false = zdg n (t + 1 + k) false := by
      rw [zdg]
      rw [if_neg (by rw [h0]; simp)]
    rw [e]
    exact zdg_skip h ht k
theorem znum_unit {n t : Nat} (ht9 : t ≤ 9) (h : n / 10 ^ t < 10) (ht : t = 0 ∨ 10 ≤ n / 10 ^ (t - 1)) : znum n = zdg n (t + 1) true := by
  have := zdg_skip h ht (9 - t)
  rw [show t + 1 + (9 - t) = 10 by omega] at this
  exact this
def zlet : Nat → Nat
  | 0 => 65
  | 1 => 67
  | 2 => 71
  | 3 => 84
  | _ => 78
def zbs (r : Nat → Nat) : Nat → List Nat
  | 0 => []
  | k + 1 => zbs r k ++ [zlet (r k)]
theorem zbs_congr {r r' : Nat → Nat} : ∀ k, (∀ i, i < k → r i = r' i) → zbs r k = zbs r' k
  | 0, _ => rfl
  | k + 1, h => by simp only [zbs]; rw [zbs_congr k (fun i hi => h i (by omega)), h k (by omega)]
/-- the differences after k bases: agreeing ones, and what is written -/
def zdf (g r : Nat → Nat) (p : Nat) : Nat → Nat × List Nat
  | 0 => (0, [])
  | k + 1 => if g (p + k) = r k then ((zdf g r p k).1 + 1, (zdf g r p k).2) else (0, (zdf g r p k).2 ++ znum (zdf g r p k).1 ++ [zlet (g (p + k))])
theorem zdf_t {g r : Nat → Nat} {p k : Nat} (h : g (p + k) = r k) : zdf g r p (k + 1) = ((zdf g r p k).1 + 1, (zdf g r p k).2) := by rw [zdf, if_pos h]
theorem zdf_f {g r : Nat → Nat} {p k : Nat} (h : ¬ g (p + k) = r k) : zdf g r p (k + 1) = (0, (zdf g r p k).2 ++ znum (zdf g r p k).1 ++ [zlet (g (p + k))]) := by rw [zdf, if_neg h]
theorem zdf_le (g r : Nat → Nat) (p : Nat) : ∀ k, (zdf g r p k).1 ≤ k
  | 0 => Nat.le_refl _
  | k + 1 => by
    have := zdf_le g r p k
    by_cases h : g (p + k) = r k
    · rw [zdf_t h]; exact Nat.succ_le_succ this
    · rw [zdf_f h]; exact Nat.zero_le _
theorem zdf_congr {g r r' : Nat → Nat} {p : Nat} : ∀ k, (∀ i, i < k → r i = r' i) → zdf g r p k = zdf g r' p k
  | 0, _ => rfl
  | k + 1, h => by simp only [zdf]; rw [zdf_congr k (fun i hi => h i (by omega)), h k (by omega)]
def zdif (g r : Nat → Nat) (p w : Nat) : List Nat := (zdf g r p w).2 ++ znum (zdf g r p w).1
/-- one hit's line -/
def zline (g r : Nat → Nat) (w no : Nat) (m : Nat → Nat) (k i : Nat) (x : Nat × Nat × Nat) : List Nat :=
  [114] ++ znum no ++ [9] ++ znum ((if x.2.1 = 1 then 16 else 0) + (if i = zpri m k then 0 else 256)) ++ [9, 103, 9] ++ znum (x.1 + 1) ++ [9] ++ znum (zqu m k i) ++ [9] ++ znum w ++ [77, 9, 42, 9, 48, 9, 48, 9] ++ (if i = zpri m k then zbs (zsy w r x.2.1) w else [42]) ++ [9, 42, 9, 78, 77, 58, 105, 58] ++ znum x.2.2 ++ [9, 77, 68, 58, 90, 58] ++ zdif g (zsy w r x.2.1) x.1 w ++ [10]
def zhead (n : Nat) : List Nat := [64, 83, 81, 9, 83, 78, 58, 103, 9, 76, 78, 58] ++ znum n ++ [10]
def znone (r : Nat → Nat) (w no : Nat) : List Nat := [114] ++ znum no ++ [9, 52, 9, 42, 9, 48, 9, 48, 9, 42, 9, 42, 9, 48, 9, 48, 9] ++ zbs r w ++ [9, 42, 10]
def zat (L : List (Nat × Nat × Nat)) (i : Nat) : Nat × Nat × Nat := L.getD i (0, 0, 0)
def zmF (L : List (Nat × Nat × Nat)) (i : Nat) : Nat := (zat L i).2.2
def zlines (g r : Nat → Nat) (w no : Nat) (L : List (Nat × Nat × Nat)) : Nat → List Nat
  | 0 => []
  | i + 1 => zlines g r w no L i ++ zline g r w no (zmF L) L.length i (zat L i)
def ztext (n : Nat) (g r : Nat → Nat) (w no : Nat) (L : List (Nat × Nat × Nat)) : List Nat := zhead n ++ (if L.length = 0 then znone r w no else zlines g r w no L L.length)
/-- an array holds a text, as far as it goes -/
def zAG (a : Nat → Nat) (L : List Nat) : Prop := ∀ i, i < L.length → i < 1500 → a i = L.getD i 0
theorem zAG_put {a : Nat → Nat} {L : List Nat} {x : Nat} (h : zAG a L) : zAG (zup a L.length x) (L ++ [x]) := by
  intro i h1 h2
  by_cases e : i = L.length
  · subst e
    rw [zup_s]
    simp
  · have h3 : i < L.length := by simp at h1; omega
    rw [zup_n e, h i h3 h2]
    simp [List.getD_eq_getElem?_getD, List.getElem?_append_left h3]
theorem zAG_over {a : Nat → Nat} {L : List Nat} {x : Nat} (h : zAG a L) (ho : 1500 ≤ L.length) : zAG a (L ++ [x]) := by
  intro i h1 h2
  have h3 : i < L.length := by omega
  rw [h i h3 h2]
  simp [List.getD_eq_getElem?_getD, List.getElem?_append_left h3]
/-- an array holds one part of each hit -/
def zAH (a : Nat → Nat) (L : List (Nat × Nat × Nat)) (f : Nat × Nat × Nat → Nat) : Prop := ∀ i, i < L.length → a i = f (zat L i)
theorem zat_in {L : List (Nat × Nat × Nat)} {x : Nat × Nat × Nat} {i : Nat} (h : i < L.length) : zat (L ++ [x]) i = zat L i := by
  simp [zat, List.getD_eq_getElem?_getD, List.getElem?_append_left h]
theorem zat_end (L : List (Nat × Nat × Nat)) (x : Nat × Nat × Nat) : zat (L ++ [x]) L.length = x := by
  simp [zat]
theorem zAH_put {a : Nat → Nat} {L : List (Nat × Nat × Nat)} {f : Nat × Nat × Nat → Nat} {x : Nat × Nat × Nat} (h : zAH a L f) : zAH (zup a L.length (f x)) (L ++ [x]) f := by
  intro i h1
  by_cases e : i = L.length
  · subst e
    rw [zup_s, zat_end]
  · have h3 : i < L.length := by simp at h1; omega
    rw [zup_n e, h i h3, zat_in h3]
