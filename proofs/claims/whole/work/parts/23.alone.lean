/-! operations without operand; changes of a byte -/
theorem alone_ok {st : CS} {rt : MS} (he : E6 st rt) (hg : Rg st) {k : Nat} (hk : k < 16) (ho : rt.1 14 = nI k) : OpOk st (f_R_operateAlone st (nI k)) rt (f_M_plain rt) := by
  have h0 := OpOk.rf he hg
  have e0 := he.1
  have e1 := he.2.1
  have e2 := he.2.2.1
  have cases : k = 0 ∨ k = 1 ∨ k = 2 ∨ k = 3 ∨ k = 4 ∨ k = 5 ∨ k = 6 ∨ k = 7 ∨ k = 8 ∨ k = 9 ∨ k = 10 ∨ k = 11 ∨ k = 12 ∨ k = 13 ∨ k = 14 ∨ k = 15 := by omega
  rcases cases with rfl | rfl | rfl | rfl | rfl | rfl | rfl | rfl | rfl | rfl | rfl | rfl | rfl | rfl | rfl | rfl
  · have eR : f_R_operateAlone st (nI 0) = st := rfl
    have eM : f_M_plain rt = rt := by unfold f_M_plain; rw [ho]; rfl
    rw [eR, eM]
    exact h0
  · have eR : f_R_operateAlone st (nI 1) = f_R_loadX st (st.1 1 + 1) := rfl
    have eM : f_M_plain rt = tV (f_M_mark rt ((rt.1 1 + 1) &&& 255)).2 1 (f_M_mark rt ((rt.1 1 + 1) &&& 255)).1 := by unfold f_M_plain; rw [ho]; rfl
    rw [eR, eM, R_loadX, M_mark, ← e1]
    exact (h0.nz (isB_and _)).x (isB_and _)
  · have eR : f_R_operateAlone st (nI 2) = f_R_loadX st (st.1 1 - 1) := rfl
    have eM : f_M_plain rt = tV (f_M_mark rt ((rt.1 1 - 1) &&& 255)).2 1 (f_M_mark rt ((rt.1 1 - 1) &&& 255)).1 := by unfold f_M_plain; rw [ho]; rfl
    rw [eR, eM, R_loadX, M_mark, ← e1]
    exact (h0.nz (isB_and _)).x (isB_and _)
  · have eR : f_R_operateAlone st (nI 3) = f_R_loadY st (st.1 2 + 1) := rfl
    have eM : f_M_plain rt = tV (f_M_mark rt ((rt.1 2 + 1) &&& 255)).2 2 (f_M_mark rt ((rt.1 2 + 1) &&& 255)).1 := by unfold f_M_plain; rw [ho]; rfl
    rw [eR, eM, R_loadY, M_mark, ← e2]
    exact (h0.nz (isB_and _)).y (isB_and _)
  · have eR : f_R_operateAlone st (nI 4) = f_R_loadY st (st.1 2 - 1) := rfl
    have eM : f_M_plain rt = tV (f_M_mark rt ((rt.1 2 - 1) &&& 255)).2 2 (f_M_mark rt ((rt.1 2 - 1) &&& 255)).1 := by unfold f_M_plain; rw [ho]; rfl
    rw [eR, eM, R_loadY, M_mark, ← e2]
    exact (h0.nz (isB_and _)).y (isB_and _)
  · have eR : f_R_operateAlone st (nI 5) = f_R_loadX st (st.1 0) := rfl
    have eM : f_M_plain rt = tV (f_M_mark rt (rt.1 0)).2 1 (f_M_mark rt (rt.1 0)).1 := by unfold f_M_plain; rw [ho]; rfl
    have hb : isB (st.1 0) := hg.1
    rw [eR, eM, R_loadX, M_mark, b_and255 hb, ← e0]
    exact (h0.nz hb).x hb
  · have eR : f_R_operateAlone st (nI 6) = f_R_loadA st (st.1 1) := rfl
    have eM : f_M_plain rt = tV (f_M_mark rt (rt.1 1)).2 0 (f_M_mark rt (rt.1 1)).1 := by unfold f_M_plain; rw [ho]; rfl
    have hb : isB (st.1 1) := hg.2.1
    rw [eR, eM, R_loadA, M_mark, b_and255 hb, ← e1]
    exact (h0.nz hb).a hb
  · have eR : f_R_operateAlone st (nI 7) = f_R_loadY st (st.1 0) := rfl
    have eM : f_M_plain rt = tV (f_M_mark rt (rt.1 0)).2 2 (f_M_mark rt (rt.1 0)).1 := by unfold f_M_plain; rw [ho]; rfl
    have hb : isB (st.1 0) := hg.1
    rw [eR, eM, R_loadY, M_mark, b_and255 hb, ← e0]
    exact (h0.nz hb).y hb
  · have eR : f_R_operateAlone st (nI 8) = f_R_loadA st (st.1 2) := rfl
    have eM : f_M_plain rt = tV (f_M_mark rt (rt.1 2)).2 0 (f_M_mark rt (rt.1 2)).1 := by unfold f_M_plain; rw [ho]; rfl
    have hb : isB (st.1 2) := hg.2.2.1
    rw [eR, eM, R_loadA, M_mark, b_and255 hb, ← e2]
    exact (h0.nz hb).a hb
  · have eR : f_R_operateAlone st (nI 9) = f_R_put st 1 0 := rfl
    have eM : f_M_plain rt = f_M_put rt 1 0 := by
      unfold f_M_plain f_M_plain_224 f_M_plain_246 f_M_plain_268
      rw [ho]
      rfl
    rw [eR, eM, R_put, M_put]
    exact h0.put 1 (by decide) 0
  · have eR : f_R_operateAlone st (nI 10) = f_R_put st 1 1 := rfl
    have eM : f_M_plain rt = f_M_put rt 1 1 := by
      unfold f_M_plain f_M_plain_224 f_M_plain_246 f_M_plain_268
      rw [ho]
      rfl
    rw [eR, eM, R_put, M_put]
    exact h0.put 1 (by decide) 1
  · have eR : f_R_operateAlone st (nI 11) = f_R_put st 4 0 := rfl
    have eM : f_M_plain rt = f_M_put rt 4 0 := by
      unfold f_M_plain f_M_plain_224 f_M_plain_246 f_M_plain_268
      rw [ho]
      rfl
    rw [eR, eM, R_put, M_put]
    exact h0.put 4 (by decide) 0
  · have eR : f_R_operateAlone st (nI 12) = f_R_put st 4 1 := rfl
    have eM : f_M_plain rt = f_M_put rt 4 1 := by
      unfold f_M_plain f_M_plain_224 f_M_plain_246 f_M_plain_268
      rw [ho]
      rfl
    rw [eR, eM, R_put, M_put]
    exact h0.put 4 (by decide) 1
  · have eR : f_R_operateAlone st (nI 13) = f_R_put st 8 0 := rfl
    have eM : f_M_plain rt = f_M_put rt 8 0 := by
      unfold f_M_plain f_M_plain_224 f_M_plain_246 f_M_plain_268
      rw [ho]
      rfl
    rw [eR, eM, R_put, M_put]
    exact h0.put 8 (by decide) 0
  · have eR : f_R_operateAlone st (nI 14) = f_R_put st 8 1 := rfl
    have eM : f_M_plain rt = f_M_put rt 8 1 := by
      unfold f_M_plain f_M_plain_224 f_M_plain_246 f_M_plain_268
      rw [ho]
      rfl
    rw [eR, eM, R_put, M_put]
    exact h0.put 8 (by decide) 1
  · have eR : f_R_operateAlone st (nI 15) = sV st 3 (st.1 1) := rfl
    have eM : f_M_plain rt = tV rt 3 (rt.1 1) := by unfold f_M_plain; rw [ho]; rfl
    rw [eR, eM, ← e1]
    exact h0.s hg.2.1
def chg (op v : Int32) : Int32 := if op = 10 then (v + 1) &&& 255 else if op = 11 then (v - 1) &&& 255 else if op = 12 then (2 * v) &&& 255 else v >>> ((1 : Int32) &&& 31)
theorem chg_dec : ∀ n, n < 256 → nI n <<< ((1 : Int32) &&& 31) = 2 * nI n ∧ isBd (nI n >>> ((1 : Int32) &&& 31)) = true ∧ (nI n < 128 ↔ nI n ≤ 127) := by decide +kernel
theorem R_chg (st : CS) (op : Int32) {v : Int32} (hv : isB v) : f_R_changed st op v = (chg op v, st) := by
  obtain ⟨n, hn, rfl⟩ := hv
  unfold f_R_changed chg
  rw [(chg_dec n hn).1]
  split
  · rfl
  · split
    · rfl
    · split <;> rfl
theorem M_chg (rt : MS) (v : Int32) : f_M_changed rt v = (chg (rt.1 14) v, rt) := by
  unfold f_M_changed chg
  split
  · rfl
  · split
    · rfl
    · split <;> rfl
theorem chg_B (op : Int32) {v : Int32} (hv : isB v) : isB (chg op v) := by
  obtain ⟨n, hn, rfl⟩ := hv
  unfold chg
  split
  · exact isB_and _
  · split
    · exact isB_and _
    · split
      · exact isB_and _
      · exact isBd_B (chg_dec n hn).2.1
theorem fput_id : ∀ n, n < 256 → fput (nI n) 1 (if nI n &&& 1 = 0 then 0 else 1) = nI n := by decide +kernel
theorem chg_ok {st : CS} {rt : MS} (he : E6 st rt) (hg : Rg st) {k : Nat} (hk : k < 14) (hk2 : 10 ≤ k) (ho : rt.1 14 = nI k) {v : Int32} (hv : isB v) (hl : rt.1 18 = v) : ∃ u : MS, f_M_happen rt 15 (chg (nI k) v) = tV u 20 (chg (nI k) v) ∧ OpOk st (f_R_flagsOfChange st (nI k) v) rt u := by
  have h0 := OpOk.rf he hg
  have e5 := he.2.2.2.2.2
  have hc := chg_B (nI k) hv
  have kM : ∀ (u : MS) (c : Int32), f_M_happen_345 u (chg (nI k) v) c 1 = tV (tV (tV u 5 (fput (u.1 5) 1 c)) 5 (mkF (fput (u.1 5) 1 c) (chg (nI k) v))) 20 (chg (nI k) v) := by
    intro u c
    have e : f_M_happen_345 u (chg (nI k) v) c 1 = tV (f_M_mark (f_M_put u 1 c) (chg (nI k) v)).2 20 (f_M_mark (f_M_put u 1 c) (chg (nI k) v)).1 := rfl
    rw [e, M_put, M_mark]
    rfl
  have kR : ∀ u : CS, f_R_flagsOfChange_49 u (nI k) v = sV u 5 (nzF (u.1 5) (chg (nI k) v)) := by
    intro u
    have e : f_R_flagsOfChange_49 u (nI k) v = f_R_putNz (f_R_changed u (nI k) v).2 (f_R_changed u (nI k) v).1 := rfl
    rw [e, R_chg u _ hv, R_nz]
  have kR1 : ∀ c : Int32, f_R_flagsOfChange_20 st (nI k) v c 1 = sV (sV st 5 (fput (st.1 5) 1 c)) 5 (nzF (fput (st.1 5) 1 c) (chg (nI k) v)) := by
    intro c
    have e : f_R_flagsOfChange_20 st (nI k) v c 1 = f_R_flagsOfChange_49 (f_R_put st 1 c) (nI k) v := rfl
    rw [e, R_put, kR]
    rfl
  have kR2 : ∀ c : Int32, f_R_flagsOfChange_46 st (nI k) v c 1 = sV (sV st 5 (fput (st.1 5) 1 c)) 5 (nzF (fput (st.1 5) 1 c) (chg (nI k) v)) := by
    intro c
    have e : f_R_flagsOfChange_46 st (nI k) v c 1 = f_R_flagsOfChange_49 (f_R_put st 1 c) (nI k) v := rfl
    rw [e, R_put, kR]
    rfl
  have step : ∀ c : Int32, OpOk st (sV (sV st 5 (fput (st.1 5) 1 c)) 5 (nzF (fput (st.1 5) 1 c) (chg (nI k) v))) rt (tV (tV rt 5 (fput (rt.1 5) 1 c)) 5 (mkF (fput (rt.1 5) 1 c) (chg (nI k) v))) := fun c => (h0.put 1 (by decide) c).nz hc
  have cases : k = 10 ∨ k = 11 ∨ k = 12 ∨ k = 13 := by omega
  have h127 : v < 128 ↔ v ≤ 127 := by
    obtain ⟨n, hn, rfl⟩ := hv
    exact (chg_dec n hn).2.2
  have hsame : fput (rt.1 5) 1 (if rt.1 5 &&& 1 = 0 then 0 else 1) = rt.1 5 := by
    obtain ⟨n, hn, -, q⟩ := e5 ▸ hg.2.2.2.2.2
    rw [q]
    exact fput_id n hn
  have plainC : ∀ (hM : f_M_happen rt 15 (chg (nI k) v) = f_M_happen_345 (f_M_is rt 1).2 (chg (nI k) v) (f_M_is rt 1).1 1) (hR : f_R_flagsOfChange st (nI k) v = f_R_flagsOfChange_49 st (nI k) v), ∃ u : MS, f_M_happen rt 15 (chg (nI k) v) = tV u 20 (chg (nI k) v) ∧ OpOk st (f_R_flagsOfChange st (nI k) v) rt u := by
    intro hM hR
    refine ⟨_, by rw [hM, kM], ?_⟩
    rw [hR, kR, M_is]
    dsimp only
    rw [hsame]
    have e : tV (tV rt 5 (rt.1 5)) 5 (mkF (rt.1 5) (chg (nI k) v)) = tV rt 5 (mkF (rt.1 5) (chg (nI k) v)) := tV_tV _ _ _ _
    rw [e]
    exact h0.nz hc
  rcases cases with rfl | rfl | rfl | rfl
  · exact plainC (by unfold f_M_happen; rw [ho]; rfl) rfl
  · exact plainC (by unfold f_M_happen; rw [ho]; rfl) rfl
  · have eM : f_M_happen rt 15 (chg (nI 12) v) = (if rt.1 18 ≤ 127 then f_M_happen_345 rt (chg (nI 12) v) 0 1 else f_M_happen_345 rt (chg (nI 12) v) 1 1) := by unfold f_M_happen; rw [ho]; rfl
    have eR : f_R_flagsOfChange st (nI 12) v = (if v < 128 then f_R_flagsOfChange_20 st (nI 12) v 0 1 else f_R_flagsOfChange_20 st (nI 12) v 1 1) := rfl
    rw [eM, eR, hl, kM, kM, kR1, kR1]
    by_cases h : v < 128
    · rw [if_pos h, if_pos (h127.mp h)]
      exact ⟨_, rfl, step 0⟩
    · rw [if_neg h, if_neg (fun q => h (h127.mpr q))]
      exact ⟨_, rfl, step 1⟩
  · have eM : f_M_happen rt 15 (chg (nI 13) v) = (if (rt.1 18 &&& 1) = 1 then f_M_happen_345 rt (chg (nI 13) v) 1 1 else f_M_happen_345 rt (chg (nI 13) v) 0 1) := by unfold f_M_happen; rw [ho]; rfl
    have eR : f_R_flagsOfChange st (nI 13) v = (if (v &&& 1) = 1 then f_R_flagsOfChange_46 st (nI 13) v 1 1 else f_R_flagsOfChange_46 st (nI 13) v 0 1) := rfl
    rw [eM, eR, hl, kM, kM, kR2, kR2]
    by_cases h : v &&& 1 = 1
    · rw [if_pos h, if_pos h]
      exact ⟨_, rfl, step 1⟩
    · rw [if_neg h, if_neg h]
      exact ⟨_, rfl, step 0⟩
