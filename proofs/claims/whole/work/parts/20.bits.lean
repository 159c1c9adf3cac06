/-! bytes, words, flags; the flag operations of both sides -/
def isB (x : Int32) : Prop := ∃ n : Nat, n < 256 ∧ x = nI n
def isW (x : Int32) : Prop := ∃ n : Nat, n < 65536 ∧ x = nI n
def isF (x : Int32) : Prop := ∃ n : Nat, n < 256 ∧ n &&& 207 = n ∧ x = nI n
theorem isB_and (x : Int32) : isB (x &&& 255) := pk_andE x 8 (by decide)
theorem isW_and (x : Int32) : isW (x &&& 65535) := pk_andE x 16 (by decide)
theorem b_and255 {x : Int32} (h : isB x) : x &&& 255 = x := by
  obtain ⟨n, hn, rfl⟩ := h
  rw [pk_andN (by omega) 8 (by decide), Nat.mod_eq_of_lt (by omega)]
theorem w_and {x : Int32} (h : isW x) : x &&& 65535 = x := by
  obtain ⟨n, hn, rfl⟩ := h
  rw [pk_andN (by omega) 16 (by decide), Nat.mod_eq_of_lt (by omega)]
theorem isB_W {x : Int32} (h : isB x) : isW x := by
  obtain ⟨n, hn, rfl⟩ := h
  exact ⟨n, by omega, rfl⟩
theorem f_dec : ∀ n, n < 256 → nI n &&& 207 = nI (n &&& 207) ∧ (n &&& 207) < 256 ∧ (n &&& 207) &&& 207 = n &&& 207 := by decide +kernel
theorem isF_and (x : Int32) : isF (x &&& 207) := by
  have e : x &&& 207 = (x &&& 255) &&& 207 := by rw [Int32.and_assoc]; rfl
  obtain ⟨n, hn, h⟩ := isB_and x
  rw [e, h]
  obtain ⟨h1, h2, h3⟩ := f_dec n hn
  exact ⟨n &&& 207, h2, h3, h1⟩
theorem isF_B {x : Int32} (h : isF x) : isB x := by
  obtain ⟨n, hn, -, rfl⟩ := h
  exact ⟨n, hn, rfl⟩
def fput (f c on : Int32) : Int32 := if on = 0 then f &&& (c ^^^ (-1)) else f ||| c
theorem fput_dec : ∀ c ∈ [1, 2, 4, 8, 64, 128], ∀ n, n < 256 → n &&& 207 = n → (nI n ||| nI c = nI (n ||| c) ∧ (n ||| c) < 256 ∧ (n ||| c) &&& 207 = n ||| c) ∧ (nI n &&& (nI c ^^^ (-1)) = nI (n &&& (255 - c)) ∧ (n &&& (255 - c)) < 256 ∧ (n &&& (255 - c)) &&& 207 = n &&& (255 - c)) := by decide +kernel
theorem isF_put {f : Int32} (h : isF f) (c : Nat) (hc : c ∈ [1, 2, 4, 8, 64, 128]) (on : Int32) : isF (fput f (nI c) on) := by
  obtain ⟨n, hn, h2, rfl⟩ := h
  obtain ⟨⟨a1, a2, a3⟩, b1, b2, b3⟩ := fput_dec c hc n hn h2
  unfold fput
  split
  · exact ⟨_, b2, b3, b1⟩
  · exact ⟨_, a2, a3, a1⟩
def nzF (f b : Int32) : Int32 := ((f &&& (-131)) ||| (b &&& 128)) ||| (if b = 0 then 2 else 0)
def mkF (f b : Int32) : Int32 := fput (fput f 128 (if b ≤ 127 then 0 else 1)) 2 (if b = 0 then 1 else 0)
theorem nz_dec1 : ∀ k, k < 256 → (nI k = 0 ↔ k = 0) ∧ (nI k ≤ 127 ↔ k ≤ 127) ∧ nI k &&& 128 = if k ≤ 127 then 0 else 128 := by decide +kernel
theorem nz_dec2 : ∀ n, n < 256 → ((nI n &&& (-131)) ||| 0) ||| 2 = (nI n &&& (128 ^^^ (-1))) ||| 2 ∧ ((nI n &&& (-131)) ||| 0) ||| 0 = (nI n &&& (128 ^^^ (-1))) &&& (2 ^^^ (-1)) ∧ ((nI n &&& (-131)) ||| 128) ||| 0 = (nI n ||| 128) &&& (2 ^^^ (-1)) := by decide +kernel
theorem nz_eq {f b : Int32} (hf : isF f) (hb : isB b) : nzF f b = mkF f b := by
  obtain ⟨n, hn, -, rfl⟩ := hf
  obtain ⟨k, hk, rfl⟩ := hb
  obtain ⟨h1, h2, h3⟩ := nz_dec1 k hk
  obtain ⟨g1, g2, g3⟩ := nz_dec2 n hn
  unfold nzF mkF fput
  rw [h3]
  by_cases e0 : k = 0
  · subst e0
    simpa [nI_0] using g1
  · by_cases e1 : k ≤ 127
    · have a0 : ¬ nI k = 0 := fun q => e0 (h1.mp q)
      have a1 : nI k ≤ 127 := h2.mpr e1
      rw [if_pos e1, if_neg a0, if_pos a1, if_neg a0]
      simpa using g2
    · have a0 : ¬ nI k = 0 := fun q => e0 (h1.mp q)
      have a1 : ¬ nI k ≤ 127 := fun q => e1 (h2.mp q)
      rw [if_neg e1, if_neg a0, if_neg a1, if_neg a0]
      simpa using g3
theorem isF_mk {f : Int32} (h : isF f) (b : Int32) : isF (mkF f b) := isF_put (isF_put h 128 (by decide) _) 2 (by decide) _
theorem isF_nz {f b : Int32} (hf : isF f) (hb : isB b) : isF (nzF f b) := by rw [nz_eq hf hb]; exact isF_mk hf b
theorem upd_upd (f : Nat → Int32) (k : Nat) (x y : Int32) : upd (upd f k x) k y = upd f k y := by
  funext j
  unfold upd
  split <;> rfl
theorem tV_tV (rt : MS) (k : Nat) (x y : Int32) : tV (tV rt k x) k y = tV rt k y := by unfold tV; rw [upd_upd]
theorem sV_sV (st : CS) (k : Nat) (x y : Int32) : sV (sV st k x) k y = sV st k y := by unfold sV; rw [upd_upd]
theorem R_put (st : CS) (c on : Int32) : f_R_put st c on = sV st 5 (fput (st.1 5) c on) := by
  unfold f_R_put fput
  split <;> rfl
theorem M_put (rt : MS) (c on : Int32) : f_M_put rt c on = tV rt 5 (fput (rt.1 5) c on) := by
  unfold f_M_put fput
  split <;> rfl
theorem R_nz (st : CS) (b : Int32) : f_R_putNz st b = sV st 5 (nzF (st.1 5) b) := by
  unfold f_R_putNz nzF
  show (if b = 0 then _ else _) = _
  split <;> rfl
theorem M_mark (rt : MS) (b : Int32) : f_M_mark rt b = (b, tV rt 5 (mkF (rt.1 5) b)) := by
  have key : ∀ x, f_M_mark_15 rt b x 128 = (b, tV rt 5 (fput (fput (rt.1 5) 128 x) 2 (if b = 0 then 1 else 0))) := by
    intro x
    unfold f_M_mark_15
    rw [M_put]
    show (if b = 0 then _ else _) = _
    by_cases e : b = 0
    · rw [if_pos e, if_pos e]
      show (b, f_M_put (tV rt 5 (fput (rt.1 5) 128 x)) 2 1) = _
      rw [M_put, tV_tV]
      rfl
    · rw [if_neg e, if_neg e]
      show (b, f_M_put (tV rt 5 (fput (rt.1 5) 128 x)) 2 0) = _
      rw [M_put, tV_tV]
      rfl
  unfold f_M_mark mkF
  by_cases e : b ≤ 127
  · rw [if_pos e, if_pos e]; exact key 0
  · rw [if_neg e, if_neg e]; exact key 1
