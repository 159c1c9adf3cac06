/-! the reference's two loops over a row of digits: digit and lengthOf -/
def dgI : Nat → Int64 → Int64
  | 0, x => x
  | n + 1, x => dgI n (x / 100)
def f_M_digit (st : MS) (v0 : Int64) (v2 : Int32) : Int32 × MS := (Int64.toInt32 (dgI v2.toNatClampNeg v0 - dgI v2.toNatClampNeg v0 / 100 * 100), st)
abbrev rm_M_digit : Room := { frames := 0, cells := 0, slots := 0, locals := 0 }
def lnI : Nat → Int64 → Int32 → Int32
  | 0, _, n => n
  | f + 1, x, n => if 0 < x then lnI f (x / 100) (n + 1) else n
def f_M_lengthOf (st : MS) (v0 : Int64) : Int32 × MS := (lnI 10 v0 0, st)
abbrev rm_M_lengthOf : Room := { frames := 0, cells := 0, slots := 0, locals := 0 }
theorem dg_le {v : Int32} {J : Nat} (hJ : v.toNatClampNeg = J) : J < 2 ^ 31 ∧ ∀ k, k ≤ J → (v ≤ nI k ↔ J ≤ k) := by
  by_cases h : v < 0
  · have h0 : v.toInt < 0 := by rw [Int32.lt_iff_toInt_lt] at h; simpa using h
    have hz : J = 0 := by rw [← hJ]; show v.toInt.toNat = 0; omega
    subst hz
    refine ⟨by decide, fun k hk => ?_⟩
    have : k = 0 := by omega
    subst this
    refine ⟨fun _ => Nat.le_refl _, fun _ => ?_⟩
    rw [nI_0, Int32.le_iff_toInt_le]
    have := Int32.toInt_zero
    omega
  · obtain ⟨j, hj, rfl⟩ := nI_of h
    rw [nI_clamp hj] at hJ
    subst hJ
    exact ⟨hj, fun k hk => nI_leI hj (by omega)⟩
set_option maxHeartbeats 4000000 in
set_option maxRecDepth 100000 in
theorem k_M_digit (l : Launch) (g : CG) (cs : CS) (o : Nat → Int64) (st : MS) (v0 : Int64) (v2 : Int32) : KI l g y_M_digit (Cond.code y_M_digit c_M_digit 6 (some .int) :: ALL) rm_M_digit [.long v0, .int v2] (wM g cs o) st (f_M_digit st v0 v2) := by
  refine KI.ofW (by decide) (Nat.le_of_ble_eq_true rfl) ?_
  intro p e s m args below meth c A Q ls Rv X he RET hC hl
  obtain ⟨hx, hb⟩ := FX_xb X
  have hl : lv_has ls 6 [(0, .long v0), (2, .int v2)] := hl
  obtain ⟨J, hJ⟩ : ∃ J, v2.toNatClampNeg = J := ⟨_, rfl⟩
  obtain ⟨hJ31, hle⟩ := dg_le hJ
  have loop : ∀ (n : Nat) (k : Nat) (x : Int64) (ls : Array Slot), k + n = J → lv_has ls 6 [(5, .int (nI k)), (3, .long x), (0, .long v0), (2, .int v2)] → dgI n x = dgI J v0 → W p l e rm_M_digit s m args below meth c s.heap [] 0 0 Q (F0 m 5 ls []) := by
    intro n
    induction n with
    | zero =>
      intro k x ls hk hl hd
      refine lv_iload (pc := 5) hx hb d_M_digit_5 (lv_at hl 0 rfl) ?_
      refine lv_iload_n (pc := 7) hx hb d_M_digit_7 rfl (lv_at hl 3 rfl) ?_
      refine lv_icmp_ge (pc := 8) (tgt := 23) hx hb d_M_digit_8 (by decide) (fun h1 => ?_) (fun h1 => ?_)
      · refine lv_lload_n (pc := 23) hx hb d_M_digit_23 rfl (lv_at hl 1 rfl) ?_
        refine LM_86 (pc := 24) X d_M_digit_24 ?_
        refine lv_lrem (pc := 27) hx hb d_M_digit_27 (by decide) ?_
        refine lv_l2i (pc := 28) hx hb d_M_digit_28 rfl ?_
        refine RET (pc := 29) d_M_digit_29 hC ?_
        rw [← he]
        unfold f_M_digit
        rw [hJ, ← hd]
        rfl
      · exact absurd ((hle k (by omega)).mpr (by omega)) h1
    | succ n ih =>
      intro k x ls hk hl hd
      refine lv_iload (pc := 5) hx hb d_M_digit_5 (lv_at hl 0 rfl) ?_
      refine lv_iload_n (pc := 7) hx hb d_M_digit_7 rfl (lv_at hl 3 rfl) ?_
      refine lv_icmp_ge (pc := 8) (tgt := 23) hx hb d_M_digit_8 (by decide) (fun h1 => ?_) (fun h1 => ?_)
      · have := (hle k (by omega)).mp h1
        omega
      · refine lv_lload_n (pc := 11) hx hb d_M_digit_11 rfl (lv_at hl 1 rfl) ?_
        refine LM_86 (pc := 12) X d_M_digit_12 ?_
        refine lv_ldiv (pc := 15) hx hb d_M_digit_15 (by decide) ?_
        refine lv_lstore_n (pc := 16) (nL := 6) (lv' := [(3, .long (x / 100)), (5, .int (nI k)), (0, .long v0), (2, .int v2)]) hx hb d_M_digit_16 rfl hl (by decide) rfl (fun ls hl => ?_)
        refine lv_iinc (pc := 17) (k := 1) (nL := 6) (v := nI (k + 1)) (lv' := [(5, .int (nI (k + 1))), (3, .long (x / 100)), (0, .long v0), (2, .int v2)]) hx hb d_M_digit_17 hl rfl (nI_1 k) (by decide) rfl (fun ls hl => ?_)
        refine lv_goto (pc := 20) (tgt := 5) hx hb d_M_digit_20 (by decide) ?_
        exact ih (k + 1) (x / 100) ls (by omega) hl hd
  refine lv_lload_n (pc := 0) hx hb d_M_digit_0 rfl (lv_at hl 0 rfl) ?_
  refine lv_lstore_n (pc := 1) (nL := 6) (lv' := [(3, .long v0), (0, .long v0), (2, .int v2)]) hx hb d_M_digit_1 rfl hl (by decide) rfl (fun ls hl => ?_)
  refine lv_iconst (pc := 2) (v := 0) hx hb d_M_digit_2 (by decide) ?_
  refine lv_istore (pc := 3) (nL := 6) (lv' := [(5, .int 0), (3, .long v0), (0, .long v0), (2, .int v2)]) hx hb d_M_digit_3 hl (by decide) rfl (fun ls hl => ?_)
  exact loop J 0 v0 ls (by omega) (by rw [nI_0]; exact hl) rfl
set_option maxHeartbeats 4000000 in
set_option maxRecDepth 100000 in
theorem k_M_lengthOf (l : Launch) (g : CG) (cs : CS) (o : Nat → Int64) (st : MS) (v0 : Int64) : KI l g y_M_lengthOf (Cond.code y_M_lengthOf c_M_lengthOf 5 (some .int) :: ALL) rm_M_lengthOf [.long v0] (wM g cs o) st (f_M_lengthOf st v0) := by
  refine KI.ofW (by decide) (Nat.le_of_ble_eq_true rfl) ?_
  intro p e s m args below meth c A Q ls Rv X he RET hC hl
  obtain ⟨hx, hb⟩ := FX_xb X
  have hl : lv_has ls 5 [(0, .long v0)] := hl
  have loop : ∀ (f : Nat) (x : Int64) (n : Int32) (ls : Array Slot), x.toInt < 100 ^ f → lv_has ls 5 [(3, .long x), (2, .int n)] → lnI f x n = lnI 10 v0 0 → W p l e rm_M_lengthOf s m args below meth c s.heap [] 0 0 Q (F0 m 4 ls []) := by
    intro f
    induction f with
    | zero =>
      intro x n ls hf hl hd
      refine lv_lload_n (pc := 4) hx hb d_M_lengthOf_4 rfl (lv_at hl 0 rfl) ?_
      refine lv_lconst (pc := 5) (v := 0) hx hb d_M_lengthOf_5 (by decide) ?_
      refine W.lcmp (pc := 6) hx hb d_M_lengthOf_6 ?_
      refine lv_if_le (pc := 7) (tgt := 22) hx hb d_M_lengthOf_7 (by decide) (fun h1 => ?_) (fun h1 => ?_)
      · refine lv_iload_n (pc := 22) hx hb d_M_lengthOf_22 rfl (lv_at hl 1 rfl) ?_
        refine RET (pc := 23) d_M_lengthOf_23 hC ?_
        rw [← he]
        unfold f_M_lengthOf
        rw [← hd]
        rfl
      · refine absurd ((lg_cmp_le x 0).mpr ?_) h1
        rw [Int64.le_iff_toInt_le]
        have : (0 : Int64).toInt = 0 := by decide
        have h2 : ((100 : Int) ^ 0) = 1 := rfl
        omega
    | succ f ih =>
      intro x n ls hf hl hd
      refine lv_lload_n (pc := 4) hx hb d_M_lengthOf_4 rfl (lv_at hl 0 rfl) ?_
      refine lv_lconst (pc := 5) (v := 0) hx hb d_M_lengthOf_5 (by decide) ?_
      refine W.lcmp (pc := 6) hx hb d_M_lengthOf_6 ?_
      refine lv_if_le (pc := 7) (tgt := 22) hx hb d_M_lengthOf_7 (by decide) (fun h1 => ?_) (fun h1 => ?_)
      · refine lv_iload_n (pc := 22) hx hb d_M_lengthOf_22 rfl (lv_at hl 1 rfl) ?_
        refine RET (pc := 23) d_M_lengthOf_23 hC ?_
        rw [← he]
        unfold f_M_lengthOf
        rw [← hd]
        have h3 : ¬ 0 < x := by
          have := (lg_cmp_le x 0).mp h1
          rw [Int64.le_iff_toInt_le] at this
          rw [Int64.lt_iff_toInt_lt]
          omega
        unfold lnI
        rw [if_neg h3]
      · have h3 : 0 < x := by
          have h4 : ¬ x ≤ 0 := fun q => h1 ((lg_cmp_le x 0).mpr q)
          rw [Int64.le_iff_toInt_le] at h4
          rw [Int64.lt_iff_toInt_lt]
          omega
        refine lv_iinc (pc := 10) (k := 1) (nL := 5) (v := n + 1) (lv' := [(2, .int (n + 1)), (3, .long x)]) hx hb d_M_lengthOf_10 hl rfl rfl (by decide) rfl (fun ls hl => ?_)
        refine lv_lload_n (pc := 13) hx hb d_M_lengthOf_13 rfl (lv_at hl 1 rfl) ?_
        refine LM_86 (pc := 14) X d_M_lengthOf_14 ?_
        refine lv_ldiv (pc := 17) hx hb d_M_lengthOf_17 (by decide) ?_
        refine lv_lstore_n (pc := 18) (nL := 5) (lv' := [(3, .long (x / 100)), (2, .int (n + 1))]) hx hb d_M_lengthOf_18 rfl hl (by decide) rfl (fun ls hl => ?_)
        refine lv_goto (pc := 19) (tgt := 4) hx hb d_M_lengthOf_19 (by decide) ?_
        refine ih (x / 100) (n + 1) ls ?_ hl ?_
        · have h4 : ¬ x < 0 := by
            rw [Int64.lt_iff_toInt_lt] at h3 ⊢
            omega
          obtain ⟨k, hk, rfl⟩ := pk_lOf h4
          rw [show (100 : Int64) = lN 100 from rfl, pk_lDiv hk (by decide) (by decide), pk_lT (by omega)]
          rw [pk_lT hk] at hf
          have h5 : k < 100 ^ (f + 1) := by exact_mod_cast hf
          have h6 : k / 100 < 100 ^ f := by
            rw [Nat.div_lt_iff_lt_mul (by decide)]
            rw [Nat.pow_succ] at h5
            exact h5
          exact_mod_cast h6
        · rw [← hd]
          conv => rhs; unfold lnI
          rw [if_pos h3]
  refine lv_iconst (pc := 0) (v := 0) hx hb d_M_lengthOf_0 (by decide) ?_
  refine lv_istore_n (pc := 1) (nL := 5) (lv' := [(2, .int 0), (0, .long v0)]) hx hb d_M_lengthOf_1 rfl hl (by decide) rfl (fun ls hl => ?_)
  refine lv_lload_n (pc := 2) hx hb d_M_lengthOf_2 rfl (lv_at hl 1 rfl) ?_
  refine lv_lstore_n (pc := 3) (nL := 5) (lv' := [(3, .long v0), (2, .int 0), (0, .long v0)]) hx hb d_M_lengthOf_3 rfl hl (by decide) rfl (fun ls hl => ?_)
  refine loop 10 v0 0 ls ?_ (lv_sub hl [0, 1] rfl) rfl
  have := Int64.toInt_lt v0
  omega
