/-! decimal arithmetic; the operations of the modes, on both sides -/
def isBd (x : Int32) : Bool := decide (x &&& 255 = x)
def decF (f a b h : Int32) (z : Int32) : Int32 := fput (fput (fput f 2 z) 128 (if h &&& 8 = 0 then 0 else 1)) 64 (if a &&& 128 = b &&& 128 then (if (a &&& 128) >>> ((4 : Int32) &&& 31) = h &&& 8 then 0 else 1) else 0)
def decC (h : Int32) : Int32 := if h ≤ 9 then h else h + 6
theorem nib_dec : ∀ i, i < 16 → ∀ j, j < 16 → (nI i <<< ((4 : Int32) &&& 31)) ||| nI j = 16 * nI i + nI j ∧ isBd (16 * nI i + nI j) = true := by decide +kernel
theorem and15 (x : Int32) : ∃ j : Nat, j < 16 ∧ x &&& 15 = nI j := pk_andE x 4 (by decide)
theorem isBd_B {x : Int32} (h : isBd x = true) : isB x := by
  unfold isBd at h
  obtain ⟨n, hn, e⟩ := pk_andE x (m := 255) 8 (by decide)
  have : x &&& 255 = x := by simpa using h
  exact ⟨n, hn, this.symm.trans e⟩
theorem nib_eq (h l : Int32) : ((h &&& 15) <<< ((4 : Int32) &&& 31)) ||| (l &&& 15) = 16 * (h &&& 15) + (l &&& 15) := by
  obtain ⟨i, hi, e1⟩ := and15 h
  obtain ⟨j, hj, e2⟩ := and15 l
  rw [e1, e2]
  exact (nib_dec i hi j hj).1
theorem nib_B (h l : Int32) : isB (16 * (h &&& 15) + (l &&& 15)) := by
  obtain ⟨i, hi, e1⟩ := and15 h
  obtain ⟨j, hj, e2⟩ := and15 l
  rw [e1, e2]
  exact isBd_B (nib_dec i hi j hj).2
def lo6 (y : Int32) : Int32 := if y ≤ 9 then y else y + 6
def hiS (a b l : Int32) : Int32 := ((a >>> ((4 : Int32) &&& 31)) + (b >>> ((4 : Int32) &&& 31))) + (if l ≤ 15 then 0 else 1)
def zS (a b c : Int32) : Int32 := if ((a + b) + c) &&& 255 = 0 then 1 else 0
def decAF (f a b : Int32) : Int32 := fput (decF f a b (hiS a b (lo6 (((a &&& 15) + (b &&& 15)) + (f &&& 1)))) (zS a b (f &&& 1))) 1 (if decC (hiS a b (lo6 (((a &&& 15) + (b &&& 15)) + (f &&& 1)))) ≤ 15 then 0 else 1)
def decAR (f a b : Int32) : Int32 := 16 * (decC (hiS a b (lo6 (((a &&& 15) + (b &&& 15)) + (f &&& 1)))) &&& 15) + (lo6 (((a &&& 15) + (b &&& 15)) + (f &&& 1)) &&& 15)
theorem M_dec (rt : MS) (b : Int32) : f_M_addDecimal rt b = (decAR (rt.1 5) (rt.1 0) b, tV rt 5 (decAF (rt.1 5) (rt.1 0) b)) := by
  have k1 : ∀ (u : MS) (l h : Int32), f_M_addDecimal_168 u l h = (16 * (h &&& 15) + (l &&& 15), tV u 5 (fput (u.1 5) 1 (if h ≤ 15 then 0 else 1))) := by
    intro u l h
    have e : ∀ c, f_M_addDecimal_184 u l h c 1 = (((h &&& 15) <<< ((4 : Int32) &&& 31)) ||| (l &&& 15), f_M_put u 1 c) := fun c => rfl
    unfold f_M_addDecimal_168
    rw [e, e, nib_eq, M_put, M_put]
    split <;> rfl
  have k2 : ∀ (u : MS) (l h v : Int32), f_M_addDecimal_148 u l h v 64 = (16 * (decC h &&& 15) + (l &&& 15), tV u 5 (fput (fput (u.1 5) 64 v) 1 (if decC h ≤ 15 then 0 else 1))) := by
    intro u l h v
    have e : f_M_addDecimal_148 u l h v 64 = (if h ≤ 9 then f_M_addDecimal_168 (f_M_put u 64 v) l h else f_M_addDecimal_168 (f_M_put u 64 v) l (h + 6)) := rfl
    rw [e, k1, k1, M_put, tV_tV, tV_tV]
    unfold decC
    split <;> rfl
  have k3 : ∀ (u : MS) (l h n : Int32), f_M_addDecimal_103 u b l h n 128 = (16 * (decC h &&& 15) + (l &&& 15), tV u 5 (fput (fput (fput (u.1 5) 128 n) 64 (if u.1 0 &&& 128 = b &&& 128 then (if (u.1 0 &&& 128) >>> ((4 : Int32) &&& 31) = h &&& 8 then 0 else 1) else 0)) 1 (if decC h ≤ 15 then 0 else 1))) := by
    intro u l h n
    have e : f_M_addDecimal_103 u b l h n 128 = (if ((f_M_put u 128 n).1 0 &&& 128) = (b &&& 128) then (if (((f_M_put u 128 n).1 0 &&& 128) >>> ((4 : Int32) &&& 31)) = (h &&& 8) then f_M_addDecimal_148 (f_M_put u 128 n) l h 0 64 else f_M_addDecimal_148 (f_M_put u 128 n) l h 1 64) else f_M_addDecimal_148 (f_M_put u 128 n) l h 0 64) := rfl
    rw [e, k2, k2, M_put, tV_tV, tV_tV]
    show (if u.1 0 &&& 128 = b &&& 128 then (if (u.1 0 &&& 128) >>> ((4 : Int32) &&& 31) = h &&& 8 then _ else _) else _) = _
    split
    · split <;> rfl
    · rfl
  have k4 : ∀ (l h z : Int32), f_M_addDecimal_83 rt b l h z 2 = (16 * (decC h &&& 15) + (l &&& 15), tV rt 5 (fput (decF (rt.1 5) (rt.1 0) b h z) 1 (if decC h ≤ 15 then 0 else 1))) := by
    intro l h z
    have e : f_M_addDecimal_83 rt b l h z 2 = (if (h &&& 8) = 0 then f_M_addDecimal_103 (f_M_put rt 2 z) b l h 0 128 else f_M_addDecimal_103 (f_M_put rt 2 z) b l h 1 128) := rfl
    rw [e, k3, k3, M_put, tV_tV, tV_tV]
    unfold decF
    by_cases hh : h &&& 8 = 0
    · rw [if_pos hh, if_pos hh]; rfl
    · rw [if_neg hh, if_neg hh]; rfl
  have k5 : ∀ (c l s0 s1 : Int32), f_M_addDecimal_58 rt b c l s0 s1 = (16 * (decC (s1 + s0) &&& 15) + (l &&& 15), tV rt 5 (fput (decF (rt.1 5) (rt.1 0) b (s1 + s0) (zS (rt.1 0) b c)) 1 (if decC (s1 + s0) ≤ 15 then 0 else 1))) := by
    intro c l s0 s1
    have e : f_M_addDecimal_58 rt b c l s0 s1 = (if (((rt.1 0 + b) + c) &&& 255) = 0 then f_M_addDecimal_83 rt b l (s1 + s0) 1 2 else f_M_addDecimal_83 rt b l (s1 + s0) 0 2) := rfl
    rw [e, k4, k4]
    unfold zS
    split <;> rfl
  have k6 : ∀ (c l : Int32), f_M_addDecimal_36 rt b c l = (16 * (decC (hiS (rt.1 0) b l) &&& 15) + (l &&& 15), tV rt 5 (fput (decF (rt.1 5) (rt.1 0) b (hiS (rt.1 0) b l) (zS (rt.1 0) b c)) 1 (if decC (hiS (rt.1 0) b l) ≤ 15 then 0 else 1))) := by
    intro c l
    unfold f_M_addDecimal_36
    rw [k5, k5]
    unfold hiS
    split <;> rfl
  have e : f_M_addDecimal rt b = (if (((rt.1 0 &&& 15) + (b &&& 15)) + (rt.1 5 &&& 1)) ≤ 9 then f_M_addDecimal_36 rt b (rt.1 5 &&& 1) (((rt.1 0 &&& 15) + (b &&& 15)) + (rt.1 5 &&& 1)) else f_M_addDecimal_36 rt b (rt.1 5 &&& 1) ((((rt.1 0 &&& 15) + (b &&& 15)) + (rt.1 5 &&& 1)) + 6)) := rfl
  rw [e, k6, k6]
  unfold decAR decAF lo6
  split <;> rfl
theorem R_dec {st : CS} {b : Int32} (hg : Rg st) (hb : isB b) : f_R_addDecimal st b = sV (sV st 5 (decAF (st.1 5) (st.1 0) b)) 0 (decAR (st.1 5) (st.1 0) b) := by
  have k1 : ∀ (u : CS) (l h : Int32), f_R_addDecimal_123 u l h = sV (sV u 5 (fput (u.1 5) 1 (if h ≤ 15 then 0 else 1))) 0 (16 * (h &&& 15) + (l &&& 15)) := by
    intro u l h
    have e : ∀ c, f_R_addDecimal_136 u l h c 1 = sV (f_R_put u 1 c) 0 (16 * (h &&& 15) + (l &&& 15)) := fun c => rfl
    unfold f_R_addDecimal_123
    rw [e, e, R_put, R_put]
    split <;> rfl
  have k2 : ∀ (u : CS) (l h v4 z : Int32), f_R_addDecimal_89 u b l h v4 z 2 = sV (sV u 5 (fput (fput (fput (fput (u.1 5) 2 z) 128 v4) 64 (dS (u.1 0) b v4)) 1 (if decC h ≤ 15 then 0 else 1))) 0 (16 * (decC h &&& 15) + (l &&& 15)) := by
    intro u l h v4 z
    have e : f_R_addDecimal_89 u b l h v4 z 2 = (if h ≤ 9 then f_R_addDecimal_123 (f_R_put (f_R_differsInSign (f_R_put (f_R_put u 2 z) 128 v4) b v4).2 64 (f_R_differsInSign (f_R_put (f_R_put u 2 z) 128 v4) b v4).1) l h else f_R_addDecimal_123 (f_R_put (f_R_differsInSign (f_R_put (f_R_put u 2 z) 128 v4) b v4).2 64 (f_R_differsInSign (f_R_put (f_R_put u 2 z) 128 v4) b v4).1) l (h + 6)) := rfl
    rw [e, k1, k1, R_dS]
    dsimp only
    simp only [R_put, sV_sV]
    unfold decC
    split <;> rfl
  have k3 : ∀ (l h v4 : Int32), f_R_addDecimal_62 st b l h v4 = sV (sV st 5 (fput (fput (fput (fput (st.1 5) 2 (zS (st.1 0) b (st.1 5 &&& 1))) 128 v4) 64 (dS (st.1 0) b v4)) 1 (if decC h ≤ 15 then 0 else 1))) 0 (16 * (decC h &&& 15) + (l &&& 15)) := by
    intro l h v4
    have e : f_R_addDecimal_62 st b l h v4 = (if (((st.1 0 + b) + (st.1 5 &&& 1)) &&& 255) = 0 then f_R_addDecimal_89 st b l h v4 1 2 else f_R_addDecimal_89 st b l h v4 0 2) := rfl
    rw [e, k2, k2]
    unfold zS
    split <;> rfl
  have k4 : ∀ (l s0 s1 : Int32), f_R_addDecimal_48 st b l s0 s1 = sV (sV st 5 (fput (decF (st.1 5) (st.1 0) b (s1 + s0) (zS (st.1 0) b (st.1 5 &&& 1))) 1 (if decC (s1 + s0) ≤ 15 then 0 else 1))) 0 (16 * (decC (s1 + s0) &&& 15) + (l &&& 15)) := by
    intro l s0 s1
    have e : f_R_addDecimal_48 st b l s0 s1 = (if ((s1 + s0) &&& 8) = 0 then f_R_addDecimal_62 st b l (s1 + s0) 0 else f_R_addDecimal_62 st b l (s1 + s0) 1) := rfl
    have hd := dS_eq8 hg.1 hb (s1 + s0)
    rw [e, k3, k3]
    unfold decF
    rw [← hd]
    by_cases hh : (s1 + s0) &&& 8 = 0
    · rw [if_pos hh, if_pos hh]
    · rw [if_neg hh, if_neg hh]
  have k5 : ∀ l : Int32, f_R_addDecimal_27 st b l = sV (sV st 5 (fput (decF (st.1 5) (st.1 0) b (hiS (st.1 0) b l) (zS (st.1 0) b (st.1 5 &&& 1))) 1 (if decC (hiS (st.1 0) b l) ≤ 15 then 0 else 1))) 0 (16 * (decC (hiS (st.1 0) b l) &&& 15) + (l &&& 15)) := by
    intro l
    unfold f_R_addDecimal_27
    rw [k4, k4]
    unfold hiS
    split <;> rfl
  have e : f_R_addDecimal st b = (if (((st.1 0 &&& 15) + (b &&& 15)) + (st.1 5 &&& 1)) ≤ 9 then f_R_addDecimal_27 st b (((st.1 0 &&& 15) + (b &&& 15)) + (st.1 5 &&& 1)) else f_R_addDecimal_27 st b ((((st.1 0 &&& 15) + (b &&& 15)) + (st.1 5 &&& 1)) + 6)) := rfl
  rw [e, k5, k5]
  unfold decAR decAF lo6
  split <;> rfl
theorem isF_decA {f : Int32} (h : isF f) (a b : Int32) : isF (decAF f a b) := isF_put (isF_put (isF_put (isF_put h 2 (by decide) _) 128 (by decide) _) 64 (by decide) _) 1 (by decide) _
theorem isB_decA (f a b : Int32) : isB (decAR f a b) := nib_B _ _
-- differences
def dLo (f a b : Int32) : Int32 := ((a &&& 15) - (b &&& 15)) - (1 - (f &&& 1))
def n6 (y : Int32) : Int32 := if 0 ≤ y then y else y - 6
def dHi (f a b : Int32) : Int32 := ((a >>> ((4 : Int32) &&& 31)) - (b >>> ((4 : Int32) &&& 31))) - (if 0 ≤ dLo f a b then 0 else 1)
def dDR (f a b : Int32) : Int32 := 16 * (n6 (dHi f a b) &&& 15) + (n6 (dLo f a b) &&& 15)
theorem dlo_dec : ∀ i, i < 16 → ∀ j, j < 16 → ∀ c, c < 2 → (0 ≤ (nI i - nI j) - (1 - nI c) ↔ 0 ≤ n6 ((nI i - nI j) - (1 - nI c))) := by decide +kernel
theorem and1 (x : Int32) : ∃ j : Nat, j < 2 ∧ x &&& 1 = nI j := pk_andE x 1 (by decide)
theorem dlo_n6 (f a b : Int32) : 0 ≤ dLo f a b ↔ 0 ≤ n6 (dLo f a b) := by
  unfold dLo
  obtain ⟨i, hi, e1⟩ := and15 a
  obtain ⟨j, hj, e2⟩ := and15 b
  obtain ⟨c, hc, e3⟩ := and1 f
  rw [e1, e2, e3]
  exact dlo_dec i hi j hj c hc
theorem sub6 (x : Int32) : x + (-6) = x - 6 := by rw [Int32.sub_eq_add_neg]
theorem R_dd (st : CS) (b : Int32) : f_R_decimalDifference st b = (dDR (st.1 5) (st.1 0) b, st) := by
  have k1 : ∀ (l s0 s1 : Int32), f_R_decimalDifference_46 st l s0 s1 = (16 * (n6 (s1 - s0) &&& 15) + (l &&& 15), st) := by
    intro l s0 s1
    have e : f_R_decimalDifference_46 st l s0 s1 = (if 0 ≤ (s1 - s0) then f_R_decimalDifference_55 st l (s1 - s0) else f_R_decimalDifference_55 st l ((s1 - s0) + (-6))) := rfl
    rw [e, sub6]
    unfold n6
    split <;> rfl
  have k2 : ∀ l : Int32, f_R_decimalDifference_27 st b l = (16 * (n6 (((st.1 0 >>> ((4 : Int32) &&& 31)) - (b >>> ((4 : Int32) &&& 31))) - (if 0 ≤ l then 0 else 1)) &&& 15) + (l &&& 15), st) := by
    intro l
    unfold f_R_decimalDifference_27
    rw [k1, k1]
    split <;> rfl
  have e : f_R_decimalDifference st b = (if 0 ≤ dLo (st.1 5) (st.1 0) b then f_R_decimalDifference_27 st b (dLo (st.1 5) (st.1 0) b) else f_R_decimalDifference_27 st b (dLo (st.1 5) (st.1 0) b + (-6))) := rfl
  have hz := dlo_n6 (st.1 5) (st.1 0) b
  rw [e, sub6, k2, k2]
  unfold dDR dHi
  by_cases h : 0 ≤ dLo (st.1 5) (st.1 0) b
  · have hn : n6 (dLo (st.1 5) (st.1 0) b) = dLo (st.1 5) (st.1 0) b := if_pos h
    rw [if_pos h, if_pos h, hn]
  · have hn : n6 (dLo (st.1 5) (st.1 0) b) = dLo (st.1 5) (st.1 0) b - 6 := if_neg h
    have h2 : ¬ 0 ≤ dLo (st.1 5) (st.1 0) b - 6 := fun q => h (hz.mpr (hn ▸ q))
    rw [if_neg h, if_neg h, hn, if_neg h2]
theorem sumF_D : ∀ c ∈ [1, 2, 64, 128], ∀ n, n < 256 → n &&& 207 = n → (nI n ||| nI c) &&& 8 = nI n &&& 8 ∧ (nI n &&& (nI c ^^^ (-1))) &&& 8 = nI n &&& 8 := by decide +kernel
theorem fput_D {f : Int32} (h : isF f) (c : Nat) (hc : c ∈ [1, 2, 64, 128]) (on : Int32) : fput f (nI c) on &&& 8 = f &&& 8 := by
  obtain ⟨n, hn, h2, rfl⟩ := h
  obtain ⟨a, b⟩ := sumF_D c hc n hn h2
  unfold fput
  split
  · exact b
  · exact a
theorem sum_D {f : Int32} (h : isF f) (a b sum : Int32) : sumF f a b sum &&& 8 = f &&& 8 := by
  unfold sumF mkF
  have h1 := isF_put h 1 (by decide) (if sum ≤ 255 then 0 else 1)
  have h2 := isF_put h1 64 (by decide) (vS a b sum)
  have h3 := isF_put h2 128 (by decide) (if sum &&& 255 ≤ 127 then 0 else 1)
  exact (fput_D h3 2 (by decide) _).trans ((fput_D h2 128 (by decide) _).trans ((fput_D h1 64 (by decide) _).trans (fput_D h 1 (by decide) _)))
theorem M_sub {rt : MS} (hf : isF (rt.1 5)) (b : Int32) : f_M_subtract rt b = ((if rt.1 5 &&& 8 = 0 then (rt.1 0 + (255 - b) + (rt.1 5 &&& 1)) &&& 255 else dDR (rt.1 5) (rt.1 0) b), tV rt 5 (sumF (rt.1 5) (rt.1 0) (255 - b) (rt.1 0 + (255 - b) + (rt.1 5 &&& 1)))) := by
  have k1 : ∀ l h : Int32, f_M_subtract_74 rt b l h = ((if rt.1 5 &&& 8 = 0 then (rt.1 0 + (255 - b) + (rt.1 5 &&& 1)) &&& 255 else 16 * (h &&& 15) + (l &&& 15)), tV rt 5 (sumF (rt.1 5) (rt.1 0) (255 - b) (rt.1 0 + (255 - b) + (rt.1 5 &&& 1)))) := by
    intro l h
    have e : f_M_subtract_74 rt b l h = (if (f_M_is (f_M_add rt (255 - b)).2 8).1 = 0 then ((f_M_add rt (255 - b)).1, (f_M_is (f_M_add rt (255 - b)).2 8).2) else ((((h &&& 15) <<< ((4 : Int32) &&& 31)) ||| (l &&& 15)), (f_M_is (f_M_add rt (255 - b)).2 8).2)) := rfl
    rw [e, M_add, M_is, nib_eq]
    have hd : (tV rt 5 (sumF (rt.1 5) (rt.1 0) (255 - b) (rt.1 0 + (255 - b) + (rt.1 5 &&& 1)))).1 5 &&& 8 = rt.1 5 &&& 8 := sum_D hf _ _ _
    dsimp only
    rw [hd]
    by_cases h8 : rt.1 5 &&& 8 = 0
    · rw [if_pos h8, if_pos rfl, if_pos h8]
    · rw [if_neg h8, if_neg (by decide), if_neg h8]
  have k2 : ∀ l h : Int32, f_M_subtract_58 rt b h l = f_M_subtract_74 rt b l (n6 h) := by
    intro l h
    unfold f_M_subtract_58 n6
    split <;> rfl
  have k3 : ∀ l s0 s1 : Int32, f_M_subtract_43 rt b l s0 s1 = f_M_subtract_74 rt b (n6 l) (n6 (s1 - s0)) := by
    intro l s0 s1
    have e : f_M_subtract_43 rt b l s0 s1 = (if 0 ≤ l then f_M_subtract_58 rt b (s1 - s0) l else f_M_subtract_58 rt b (s1 - s0) (l - 6)) := rfl
    rw [e, k2, k2]
    conv => rhs; arg 3; unfold n6
    split <;> rfl
  have e : f_M_subtract rt b = (if 0 ≤ dLo (rt.1 5) (rt.1 0) b then f_M_subtract_43 rt b (dLo (rt.1 5) (rt.1 0) b) 0 ((rt.1 0 >>> ((4 : Int32) &&& 31)) - (b >>> ((4 : Int32) &&& 31))) else f_M_subtract_43 rt b (dLo (rt.1 5) (rt.1 0) b) 1 ((rt.1 0 >>> ((4 : Int32) &&& 31)) - (b >>> ((4 : Int32) &&& 31)))) := rfl
  rw [e, k3, k3, k1, k1]
  unfold dDR dHi
  split <;> rfl
theorem sub255_dec : ∀ k, k < 256 → 255 - nI k = nI (255 - k) := by decide +kernel
theorem isB_sub255 {b : Int32} (h : isB b) : isB (255 - b) := by
  obtain ⟨k, hk, rfl⟩ := h
  exact ⟨255 - k, by omega, sub255_dec k hk⟩
theorem dDR_B (f a b : Int32) : isB (dDR f a b) := nib_B _ _
theorem R_sub {st : CS} {b : Int32} (hg : Rg st) (hb : isB b) : f_R_subtract st b = sV (sV st 5 (sumF (st.1 5) (st.1 0) (255 - b) (st.1 0 + (255 - b) + (st.1 5 &&& 1)))) 0 (if st.1 5 &&& 8 = 0 then (st.1 0 + (255 - b) + (st.1 5 &&& 1)) &&& 255 else dDR (st.1 5) (st.1 0) b) := by
  have e : f_R_subtract st b = (if (f_R_has st 8).1 = 0 then sV (f_R_flagsOfSum (f_R_has st 8).2 (255 - b) (st.1 0 + (255 - b) + (st.1 5 &&& 1))) 0 ((st.1 0 + (255 - b) + (st.1 5 &&& 1)) &&& 255) else sV (f_R_flagsOfSum (f_R_decimalDifference (f_R_has st 8).2 b).2 (255 - b) (st.1 0 + (255 - b) + (st.1 5 &&& 1))) 0 (f_R_decimalDifference (f_R_has st 8).2 b).1) := rfl
  rw [e, R_has]
  dsimp only
  rw [R_dd]
  dsimp only
  rw [R_flags hg (isB_sub255 hb)]
  by_cases h : st.1 5 &&& 8 = 0
  · rw [if_pos h, if_pos rfl, if_pos h]
  · rw [if_neg h, if_neg (by decide), if_neg h]
theorem R_add {st : CS} {b : Int32} (hg : Rg st) (hb : isB b) : f_R_add st b = if st.1 5 &&& 8 = 0 then sV (sV st 5 (sumF (st.1 5) (st.1 0) b (st.1 0 + b + (st.1 5 &&& 1)))) 0 ((st.1 0 + b + (st.1 5 &&& 1)) &&& 255) else sV (sV st 5 (decAF (st.1 5) (st.1 0) b)) 0 (decAR (st.1 5) (st.1 0) b) := by
  have e : f_R_add st b = (if (f_R_has st 8).1 = 0 then sV (f_R_flagsOfSum (f_R_has st 8).2 b ((f_R_has st 8).2.1 0 + b + ((f_R_has st 8).2.1 5 &&& 1))) 0 (((f_R_has st 8).2.1 0 + b + ((f_R_has st 8).2.1 5 &&& 1)) &&& 255) else f_R_addDecimal (f_R_has st 8).2 b) := rfl
  rw [e, R_has]
  dsimp only
  rw [R_flags hg hb, R_dec hg hb]
  by_cases h : st.1 5 &&& 8 = 0
  · rw [if_pos h, if_pos rfl, if_pos h]
  · rw [if_neg h, if_neg (by decide), if_neg h]
theorem R_cmp (st : CS) (b : Int32) : f_R_compare st b = sV (sV st 5 (fput (st.1 5) 1 (if st.1 0 < b then 0 else 1))) 5 (nzF (fput (st.1 5) 1 (if st.1 0 < b then 0 else 1)) ((st.1 0 - b) &&& 255)) := by
  have e : ∀ c, f_R_compare_15 st b c 1 = f_R_putNz (f_R_put st 1 c) (((f_R_put st 1 c).1 0 - b) &&& 255) := fun c => rfl
  unfold f_R_compare
  rw [e, e, R_put, R_put, R_nz, R_nz]
  split <;> rfl
theorem nI_bor (a b : Nat) : nI a ||| nI b = nI (a ||| b) := by
  apply Int32.toBitVec_inj.mp
  show BitVec.ofNat 32 a ||| BitVec.ofNat 32 b = BitVec.ofNat 32 (a ||| b)
  rw [BitVec.ofNat_or]
theorem nI_bxor (a b : Nat) : nI a ^^^ nI b = nI (a ^^^ b) := by
  apply Int32.toBitVec_inj.mp
  show BitVec.ofNat 32 a ^^^ BitVec.ofNat 32 b = BitVec.ofNat 32 (a ^^^ b)
  rw [BitVec.ofNat_xor]
theorem isB_band {x y : Int32} (hy : isB y) : isB (x &&& y) := by
  have e : x &&& y = (x &&& y) &&& 255 := by rw [Int32.and_assoc, b_and255 hy]
  rw [e]
  exact isB_and _
theorem isB_bor {x y : Int32} (hx : isB x) (hy : isB y) : isB (x ||| y) := by
  obtain ⟨i, hi, rfl⟩ := hx
  obtain ⟨j, hj, rfl⟩ := hy
  exact ⟨i ||| j, Nat.or_lt_two_pow (n := 8) hi hj, nI_bor i j⟩
theorem isB_bxor {x y : Int32} (hx : isB x) (hy : isB y) : isB (x ^^^ y) := by
  obtain ⟨i, hi, rfl⟩ := hx
  obtain ⟨j, hj, rfl⟩ := hy
  exact ⟨i ^^^ j, Nat.xor_lt_two_pow (n := 8) hi hj, nI_bxor i j⟩
theorem use_ok {st : CS} {rt : MS} {b : Int32} (he : E6 st rt) (hg : Rg st) (hb : isB b) {k : Nat} (hk : k < 10) (h1 : k ≠ 1) (ho : rt.1 14 = nI k) : OpOk st (f_R_operate st (nI k) b) rt (f_M_use rt b) := by
  have h0 := OpOk.rf he hg
  have hbb := b_and255 hb
  have ha := hg.1
  have e0 := he.1
  have e5 := he.2.2.2.2.2
  have hf : isF (rt.1 5) := e5 ▸ hg.2.2.2.2.2
  have hand : isB (st.1 0 &&& b) ∧ isB (st.1 0 ||| b) ∧ isB (st.1 0 ^^^ b) := ⟨isB_band hb, isB_bor ha hb, isB_bxor ha hb⟩
  have cases : k = 0 ∨ k = 2 ∨ k = 3 ∨ k = 4 ∨ k = 5 ∨ k = 6 ∨ k = 7 ∨ k = 8 ∨ k = 9 := by omega
  rcases cases with rfl | rfl | rfl | rfl | rfl | rfl | rfl | rfl | rfl
  · have eR : f_R_operate st (nI 0) b = f_R_loadA st b := rfl
    have eM : f_M_use rt b = tV (f_M_mark rt b).2 0 (f_M_mark rt b).1 := by unfold f_M_use; rw [ho]; rfl
    rw [eR, eM, R_loadA, M_mark, hbb]
    exact (h0.nz hb).a hb
  · have eR : f_R_operate st (nI 2) b = f_R_add st b := rfl
    have eM : f_M_use rt b = (if (f_M_is rt 8).1 = 0 then tV (f_M_add (f_M_is rt 8).2 b).2 0 (f_M_add (f_M_is rt 8).2 b).1 else tV (f_M_addDecimal (f_M_is rt 8).2 b).2 0 (f_M_addDecimal (f_M_is rt 8).2 b).1) := by unfold f_M_use; rw [ho]; rfl
    rw [eR, eM, R_add hg hb, M_is]
    dsimp only
    rw [M_add, M_dec, e0, e5]
    by_cases h : rt.1 5 &&& 8 = 0
    · rw [if_pos h, if_pos h, if_pos rfl]
      exact (h0.f (isF_sum hf _ _ _)).a (isB_and _)
    · rw [if_neg h, if_neg h, if_neg (by decide)]
      exact (h0.f (isF_decA hf _ _)).a (isB_decA _ _ _)
  · have eR : f_R_operate st (nI 3) b = f_R_subtract st b := rfl
    have eM : f_M_use rt b = tV (f_M_subtract rt b).2 0 (f_M_subtract rt b).1 := by unfold f_M_use; rw [ho]; rfl
    rw [eR, eM, R_sub hg hb, M_sub hf, e0, e5]
    refine (h0.f (isF_sum hf _ _ _)).a ?_
    split
    · exact isB_and _
    · exact dDR_B _ _ _
  · have eR : f_R_operate st (nI 4) b = f_R_loadA st (st.1 0 &&& b) := rfl
    have eM : f_M_use rt b = tV (f_M_mark rt (rt.1 0 &&& b)).2 0 (f_M_mark rt (rt.1 0 &&& b)).1 := by unfold f_M_use; rw [ho]; rfl
    rw [eR, eM, R_loadA, M_mark, b_and255 hand.1, ← e0]
    exact (h0.nz hand.1).a hand.1
  · have eR : f_R_operate st (nI 5) b = f_R_loadA st (st.1 0 ||| b) := rfl
    have eM : f_M_use rt b = tV (f_M_mark rt (rt.1 0 ||| b)).2 0 (f_M_mark rt (rt.1 0 ||| b)).1 := by unfold f_M_use; rw [ho]; rfl
    rw [eR, eM, R_loadA, M_mark, b_and255 hand.2.1, ← e0]
    exact (h0.nz hand.2.1).a hand.2.1
  · have eR : f_R_operate st (nI 6) b = f_R_loadA st (st.1 0 ^^^ b) := rfl
    have eM : f_M_use rt b = tV (f_M_mark rt (rt.1 0 ^^^ b)).2 0 (f_M_mark rt (rt.1 0 ^^^ b)).1 := by unfold f_M_use; rw [ho]; rfl
    rw [eR, eM, R_loadA, M_mark, b_and255 hand.2.2, ← e0]
    exact (h0.nz hand.2.2).a hand.2.2
  · have eR : f_R_operate st (nI 7) b = f_R_compare st b := rfl
    have eM : f_M_use rt b = (if rt.1 0 < b then (f_M_mark (f_M_put rt 1 0) (((f_M_put rt 1 0).1 0 - b) &&& 255)).2 else (f_M_mark (f_M_put rt 1 1) (((f_M_put rt 1 1).1 0 - b) &&& 255)).2) := by unfold f_M_use; rw [ho]; rfl
    rw [eR, eM, R_cmp, M_put, M_put, M_mark, M_mark]
    have key : ∀ c : Int32, OpOk st (sV (sV st 5 (fput (st.1 5) 1 c)) 5 (nzF (fput (st.1 5) 1 c) ((st.1 0 - b) &&& 255))) rt (tV (tV rt 5 (fput (rt.1 5) 1 c)) 5 (mkF (fput (rt.1 5) 1 c) ((rt.1 0 - b) &&& 255))) := by
      intro c
      rw [← e0]
      exact (h0.put 1 (by decide) c).nz (isB_and (st.1 0 - b))
    by_cases h : st.1 0 < b
    · rw [if_pos h, if_pos (e0 ▸ h)]
      exact key 0
    · rw [if_neg h, if_neg (e0 ▸ h)]
      exact key 1
  · have eR : f_R_operate st (nI 8) b = f_R_loadX st b := rfl
    have eM : f_M_use rt b = tV (f_M_mark rt b).2 1 (f_M_mark rt b).1 := by unfold f_M_use; rw [ho]; rfl
    rw [eR, eM, R_loadX, M_mark, hbb]
    exact (h0.nz hb).x hb
  · have eR : f_R_operate st (nI 9) b = f_R_loadY st b := rfl
    have eM : f_M_use rt b = tV (f_M_mark rt b).2 2 (f_M_mark rt b).1 := by unfold f_M_use; rw [ho]; rfl
    rw [eR, eM, R_loadY, M_mark, hbb]
    exact (h0.nz hb).y hb
