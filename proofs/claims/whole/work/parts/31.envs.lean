/-- the constants of the text: how many, their lengths, their bytes, where they stand -/
def nJS : Nat := 12
def lenJS : List Nat := [5, 1, 17, 3, 1, 3, 8, 1, 8, 6, 1, 12]
def bytJS : List (List Int32) := [[65, 67, 71, 84, 78], [114], [9, 52, 9, 42, 9, 48, 9, 48, 9, 42, 9, 42, 9, 48, 9, 48, 9], [9, 42, 10], [9], [9, 103, 9], [77, 9, 42, 9, 48, 9, 48, 9], [42], [9, 42, 9, 78, 77, 58, 105, 58], [9, 77, 68, 58, 90, 58], [10], [64, 83, 81, 9, 83, 78, 58, 103, 9, 76, 78, 58]]
def tmJS : Nat → Term := fun i => ([.string "StrandMapper$MapText" 39, .string "StrandMapper$Mapping" 80, .string "StrandMapper$Mapping" 82, .string "StrandMapper$Mapping" 88, .string "StrandMapper$Mapping" 90, .string "StrandMapper$Mapping" 96, .string "StrandMapper$Mapping" 104, .string "StrandMapper$Mapping" 109, .string "StrandMapper$Mapping" 111, .string "StrandMapper$Mapping" 116, .string "StrandMapper$Mapping" 59, .string "StrandMapper$Mapping" 49] : List Term).getD i .null
def zSR : List (String × Nat × String × Nat) := [("StrandMapper$MapText", 39, "ACGTN", 0), ("StrandMapper$Mapping", 80, "\x72", 1), ("StrandMapper$Mapping", 82, "\t4\t*\t0\t0\t*\t*\t0\t0\t", 2), ("StrandMapper$Mapping", 88, "\t*\n", 3), ("StrandMapper$Mapping", 90, "\t", 4), ("StrandMapper$Mapping", 96, "\tg\t", 5), ("StrandMapper$Mapping", 104, "M\t*\t0\t0\t", 6), ("StrandMapper$Mapping", 109, "*", 7), ("StrandMapper$Mapping", 111, "\t*\tNM:i:", 8), ("StrandMapper$Mapping", 116, "\tMD:Z:", 9), ("StrandMapper$Mapping", 59, "\n", 10), ("StrandMapper$Mapping", 49, "@SQ\tSN:g\tLN:", 11)]
def zEs (adK adV : Nat → Nat) : (Nat → Prop) → State → Heap → Prop := fun A U H => zEn A U H ∧ vk_S nJS lenJS bytJS adK adV A U H ∧ va_Z "java/lang/String" "COMPACT_STRINGS" "Z" (.int 1) A U H ∧ (∀ q ∈ zSR, vk_R q.1 q.2.1 q.2.2.1 (adK q.2.2.2) U) ∧ va_Zq "jdk/internal/util/Preconditions" "SIOOBE_FORMATTER" "Ljava/util/function/BiFunction;" A U H
theorem zEs_ok (adK adV : Nat → Nat) : zEok (zEs adK adV) :=
  ⟨fun A B U H hAB h => ⟨zEn_ok.1 A B U H hAB h.1, h.2.1.narrow hAB, h.2.2.1.narrow hAB, h.2.2.2.1, h.2.2.2.2.narrow hAB⟩,
   fun A s U H hW h => ⟨zEn_ok.2.1 A s U H hW h.1, h.2.1.moved hW.alike, h.2.2.1.moved hW.alike, fun q hq => vk_R.warm hW (h.2.2.2.1 q hq), h.2.2.2.2.moved hW.alike⟩,
   fun A u U H e h => ⟨zEn_ok.2.2.1 A u U H e h.1, h.2.1.moved (by rw [e]; exact Vm.Alike.refl _), h.2.2.1.moved (by rw [e]; exact Vm.Alike.refl _), fun q hq => vk_R.same e (h.2.2.2.1 q hq), h.2.2.2.2.moved (by rw [e]; exact Vm.Alike.refl _)⟩,
   fun A U H H1 hk h => ⟨zEn_ok.2.2.2 A U H H1 hk h.1, h.2.1.kept hk, h.2.2.1.kept hk, h.2.2.2.1, h.2.2.2.2.kept hk⟩⟩
/-- the character k of constant i -/
def ztc (i k : Nat) : Nat := ((bytJS.getD i []).getD k 0).toNatClampNeg
def ztx (i : Nat) : List Nat := (List.range (lenJS.getD i 0)).map (ztc i)
theorem zs_all : ∀ i, i < nJS → ∀ k, k < lenJS.getD i 0 → ((bytJS.getD i []).getD k 0 &&& 255 = nI (ztc i k) ∧ ztc i k < 128) := by decide +kernel
theorem zs_le : ∀ i, i < nJS → lenJS.getD i 0 ≤ 60 := by decide +kernel
theorem zs_len {i : Nat} (hi : i < nJS) : lenJS.getD i 0 < 2 ^ 31 := by have := zs_le i hi; omega
theorem zs_len2 {i : Nat} (hi : i < nJS) : lenJS.getD i 0 ≤ 60 := zs_le i hi
theorem zs_and {i k : Nat} (hi : i < nJS) (hk : k < lenJS.getD i 0) : (bytJS.getD i []).getD k 0 &&& nI 255 = nI (ztc i k) := (zs_all i hi k hk).1
theorem zs_lt {i k : Nat} (hi : i < nJS) (hk : k < lenJS.getD i 0) : ztc i k < 128 := (zs_all i hi k hk).2
theorem zs_tlen (i : Nat) : (ztx i).length = lenJS.getD i 0 := by unfold ztx; simp
theorem zs_tl (i : Nat) : (ztx i).length ≤ 100 := by
  rw [zs_tlen]
  rcases Nat.lt_or_ge i nJS with h | h
  · have := zs_le i h
    omega
  · have e : lenJS.getD i 0 = 0 := by
      rw [List.getD_eq_getElem?_getD, List.getElem?_eq_none (Nat.le_trans (by decide) h)]
      rfl
    omega
theorem zs_take {i k : Nat} (hk : k < lenJS.getD i 0) : (ztx i).take k ++ [ztc i k] = (ztx i).take (k + 1) := by
  have h : (ztx i)[k]? = some (ztc i k) := by
    unfold ztx
    rw [List.getElem?_map, List.getElem?_range hk]
    rfl
  rw [List.take_add_one, h]
  rfl
theorem zs_let {q : Nat} (h : q ≤ 4) : ztc 0 q = zlet q := by
  have : ∀ q, q < 5 → ztc 0 q = zlet q := by decide +kernel
  exact this q (by omega)
theorem ztx_0 : ztx 0 = [65, 67, 71, 84, 78] := by decide +kernel
theorem ztx_1 : ztx 1 = [114] := by decide +kernel
theorem ztx_2 : ztx 2 = [9, 52, 9, 42, 9, 48, 9, 48, 9, 42, 9, 42, 9, 48, 9, 48, 9] := by decide +kernel
theorem ztx_3 : ztx 3 = [9, 42, 10] := by decide +kernel
theorem ztx_4 : ztx 4 = [9] := by decide +kernel
theorem ztx_5 : ztx 5 = [9, 103, 9] := by decide +kernel
theorem ztx_6 : ztx 6 = [77, 9, 42, 9, 48, 9, 48, 9] := by decide +kernel
theorem ztx_7 : ztx 7 = [42] := by decide +kernel
theorem ztx_8 : ztx 8 = [9, 42, 9, 78, 77, 58, 105, 58] := by decide +kernel
theorem ztx_9 : ztx 9 = [9, 77, 68, 58, 90, 58] := by decide +kernel
theorem ztx_10 : ztx 10 = [10] := by decide +kernel
theorem ztx_11 : ztx 11 = [64, 83, 81, 9, 83, 78, 58, 103, 9, 76, 78, 58] := by decide +kernel
