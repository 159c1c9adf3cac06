/-! the operations on registers: class and reference make the same of the same -/
def E6 (st : CS) (rt : MS) : Prop := st.1 0 = rt.1 0 ∧ st.1 1 = rt.1 1 ∧ st.1 2 = rt.1 2 ∧ st.1 3 = rt.1 3 ∧ st.1 4 = rt.1 4 ∧ st.1 5 = rt.1 5
def Rg (st : CS) : Prop := isB (st.1 0) ∧ isB (st.1 1) ∧ isB (st.1 2) ∧ isB (st.1 3) ∧ isW (st.1 4) ∧ isF (st.1 5)
def frC (st st' : CS) : Prop := st'.2 = st.2 ∧ ∀ j, 6 ≤ j → st'.1 j = st.1 j
def frM (rt rt' : MS) : Prop := rt'.2 = rt.2 ∧ ∀ j, 6 ≤ j → rt'.1 j = rt.1 j
def OpOk (st st' : CS) (rt rt' : MS) : Prop := (E6 st' rt' ∧ Rg st') ∧ frC st st' ∧ frM rt rt'
theorem OpOk.rf {st : CS} {rt : MS} (h : E6 st rt) (g : Rg st) : OpOk st st rt rt := ⟨⟨h, g⟩, ⟨rfl, fun _ _ => rfl⟩, ⟨rfl, fun _ _ => rfl⟩⟩
theorem upd_ge {f : Nat → Int32} {k j : Nat} {x : Int32} (hk : k < 6) (hj : 6 ≤ j) : upd f k x j = f j := by
  unfold upd
  rw [if_neg (by omega)]
theorem OpOk.a {st st' : CS} {rt rt' : MS} (h : OpOk st st' rt rt') {x : Int32} (hx : isB x) : OpOk st (sV st' 0 x) rt (tV rt' 0 x) := by
  obtain ⟨⟨⟨e0, e1, e2, e3, e4, e5⟩, g0, g1, g2, g3, g4, g5⟩, ⟨f1, f2⟩, m1, m2⟩ := h
  exact ⟨⟨⟨rfl, e1, e2, e3, e4, e5⟩, hx, g1, g2, g3, g4, g5⟩, ⟨f1, fun j hj => (upd_ge (by decide) hj).trans (f2 j hj)⟩, m1, fun j hj => (upd_ge (by decide) hj).trans (m2 j hj)⟩
theorem OpOk.x {st st' : CS} {rt rt' : MS} (h : OpOk st st' rt rt') {x : Int32} (hx : isB x) : OpOk st (sV st' 1 x) rt (tV rt' 1 x) := by
  obtain ⟨⟨⟨e0, e1, e2, e3, e4, e5⟩, g0, g1, g2, g3, g4, g5⟩, ⟨f1, f2⟩, m1, m2⟩ := h
  exact ⟨⟨⟨e0, rfl, e2, e3, e4, e5⟩, g0, hx, g2, g3, g4, g5⟩, ⟨f1, fun j hj => (upd_ge (by decide) hj).trans (f2 j hj)⟩, m1, fun j hj => (upd_ge (by decide) hj).trans (m2 j hj)⟩
theorem OpOk.y {st st' : CS} {rt rt' : MS} (h : OpOk st st' rt rt') {x : Int32} (hx : isB x) : OpOk st (sV st' 2 x) rt (tV rt' 2 x) := by
  obtain ⟨⟨⟨e0, e1, e2, e3, e4, e5⟩, g0, g1, g2, g3, g4, g5⟩, ⟨f1, f2⟩, m1, m2⟩ := h
  exact ⟨⟨⟨e0, e1, rfl, e3, e4, e5⟩, g0, g1, hx, g3, g4, g5⟩, ⟨f1, fun j hj => (upd_ge (by decide) hj).trans (f2 j hj)⟩, m1, fun j hj => (upd_ge (by decide) hj).trans (m2 j hj)⟩
theorem OpOk.s {st st' : CS} {rt rt' : MS} (h : OpOk st st' rt rt') {x : Int32} (hx : isB x) : OpOk st (sV st' 3 x) rt (tV rt' 3 x) := by
  obtain ⟨⟨⟨e0, e1, e2, e3, e4, e5⟩, g0, g1, g2, g3, g4, g5⟩, ⟨f1, f2⟩, m1, m2⟩ := h
  exact ⟨⟨⟨e0, e1, e2, rfl, e4, e5⟩, g0, g1, g2, hx, g4, g5⟩, ⟨f1, fun j hj => (upd_ge (by decide) hj).trans (f2 j hj)⟩, m1, fun j hj => (upd_ge (by decide) hj).trans (m2 j hj)⟩
theorem OpOk.pc {st st' : CS} {rt rt' : MS} (h : OpOk st st' rt rt') {x : Int32} (hx : isW x) : OpOk st (sV st' 4 x) rt (tV rt' 4 x) := by
  obtain ⟨⟨⟨e0, e1, e2, e3, e4, e5⟩, g0, g1, g2, g3, g4, g5⟩, ⟨f1, f2⟩, m1, m2⟩ := h
  exact ⟨⟨⟨e0, e1, e2, e3, rfl, e5⟩, g0, g1, g2, g3, hx, g5⟩, ⟨f1, fun j hj => (upd_ge (by decide) hj).trans (f2 j hj)⟩, m1, fun j hj => (upd_ge (by decide) hj).trans (m2 j hj)⟩
theorem OpOk.f {st st' : CS} {rt rt' : MS} (h : OpOk st st' rt rt') {x : Int32} (hx : isF x) : OpOk st (sV st' 5 x) rt (tV rt' 5 x) := by
  obtain ⟨⟨⟨e0, e1, e2, e3, e4, e5⟩, g0, g1, g2, g3, g4, g5⟩, ⟨f1, f2⟩, m1, m2⟩ := h
  exact ⟨⟨⟨e0, e1, e2, e3, e4, rfl⟩, g0, g1, g2, g3, g4, hx⟩, ⟨f1, fun j hj => (upd_ge (by decide) hj).trans (f2 j hj)⟩, m1, fun j hj => (upd_ge (by decide) hj).trans (m2 j hj)⟩
theorem upd_comm (f : Nat → Int32) {k j : Nat} (h : k ≠ j) (x y : Int32) : upd (upd f k x) j y = upd (upd f j y) k x := by
  funext i
  unfold upd
  by_cases e1 : i = j
  · rw [if_pos e1]
    by_cases e2 : i = k
    · exact absurd (e2.symm.trans e1) h
    · rw [if_neg e2, if_pos e1]
  · rw [if_neg e1]
    by_cases e2 : i = k
    · rw [if_pos e2, if_pos e2]
    · rw [if_neg e2, if_neg e2, if_neg e1]
theorem tV_comm (rt : MS) {k j : Nat} (h : k ≠ j) (x y : Int32) : tV (tV rt k x) j y = tV (tV rt j y) k x := by unfold tV; rw [upd_comm _ h]
theorem sV_comm (st : CS) {k j : Nat} (h : k ≠ j) (x y : Int32) : sV (sV st k x) j y = sV (sV st j y) k x := by unfold sV; rw [upd_comm _ h]
theorem R_loadA (st : CS) (v : Int32) : f_R_loadA st v = sV (sV st 5 (nzF (st.1 5) (v &&& 255))) 0 (v &&& 255) := by
  have e : f_R_loadA st v = f_R_putNz (sV st 0 (v &&& 255)) (v &&& 255) := rfl
  rw [e, R_nz, sV_comm _ (by decide)]
  rfl
theorem R_loadX (st : CS) (v : Int32) : f_R_loadX st v = sV (sV st 5 (nzF (st.1 5) (v &&& 255))) 1 (v &&& 255) := by
  have e : f_R_loadX st v = f_R_putNz (sV st 1 (v &&& 255)) (v &&& 255) := rfl
  rw [e, R_nz, sV_comm _ (by decide)]
  rfl
theorem R_loadY (st : CS) (v : Int32) : f_R_loadY st v = sV (sV st 5 (nzF (st.1 5) (v &&& 255))) 2 (v &&& 255) := by
  have e : f_R_loadY st v = f_R_putNz (sV st 2 (v &&& 255)) (v &&& 255) := rfl
  rw [e, R_nz, sV_comm _ (by decide)]
  rfl
theorem OpOk.nz {st st' : CS} {rt rt' : MS} (h : OpOk st st' rt rt') {b : Int32} (hb : isB b) : OpOk st (sV st' 5 (nzF (st'.1 5) b)) rt (tV rt' 5 (mkF (rt'.1 5) b)) := by
  rw [nz_eq h.1.2.2.2.2.2.2 hb, h.1.1.2.2.2.2.2]
  exact h.f (isF_mk (h.1.1.2.2.2.2.2 ▸ h.1.2.2.2.2.2.2) b)
theorem OpOk.put {st st' : CS} {rt rt' : MS} (h : OpOk st st' rt rt') (c : Nat) (hc : c ∈ [1, 2, 4, 8, 64, 128]) (on : Int32) : OpOk st (sV st' 5 (fput (st'.1 5) (nI c) on)) rt (tV rt' 5 (fput (rt'.1 5) (nI c) on)) := by
  rw [h.1.1.2.2.2.2.2]
  exact h.f (isF_put (h.1.1.2.2.2.2.2 ▸ h.1.2.2.2.2.2.2) c hc on)
theorem R_has (st : CS) (c : Int32) : f_R_has st c = ((if st.1 5 &&& c = 0 then 0 else 1), st) := by
  unfold f_R_has
  split <;> rfl
theorem M_is (rt : MS) (c : Int32) : f_M_is rt c = ((if rt.1 5 &&& c = 0 then 0 else 1), rt) := by
  unfold f_M_is
  split <;> rfl
theorem and128_dec : ∀ n, n < 256 → (nI n &&& 128 = 0 ∨ nI n &&& 128 = 128) ∧ (nI n < 128 ↔ nI n &&& 128 = 0) ∧ ((nI n &&& 128) >>> ((4 : Int32) &&& 31) = if nI n &&& 128 = 0 then 0 else 8) ∧ (nI n &&& 8 = 0 ∨ nI n &&& 8 = 8) := by decide +kernel
theorem and128 (x : Int32) : x &&& 128 = 0 ∨ x &&& 128 = 128 := by
  have e : x &&& 128 = (x &&& 255) &&& 128 := by rw [Int32.and_assoc]; rfl
  obtain ⟨n, hn, h⟩ := isB_and x
  rw [e, h]
  exact (and128_dec n hn).1
theorem and8 (x : Int32) : x &&& 8 = 0 ∨ x &&& 8 = 8 := by
  have e : x &&& 8 = (x &&& 255) &&& 8 := by rw [Int32.and_assoc]; rfl
  obtain ⟨n, hn, h⟩ := isB_and x
  rw [e, h]
  exact (and128_dec n hn).2.2.2
def dS (a b neg : Int32) : Int32 := if a < 128 then (if b < 128 then (if (0 : Int32) = neg then 0 else 1) else 0) else (if b < 128 then 0 else (if (1 : Int32) = neg then 0 else 1))
theorem R_dS (st : CS) (b neg : Int32) : f_R_differsInSign st b neg = (dS (st.1 0) b neg, st) := by
  unfold f_R_differsInSign f_R_differsInSign_15 f_R_differsInSign_29 dS
  by_cases h1 : st.1 0 < 128 <;> by_cases h2 : b < 128
  · rw [if_pos h1, if_pos h2, if_pos h1, if_pos h2, if_pos rfl]
    split <;> rfl
  · rw [if_pos h1, if_neg h2, if_pos h1, if_neg h2, if_neg (by decide)]
    rfl
  · rw [if_neg h1, if_pos h2, if_neg h1, if_pos h2, if_neg (by decide)]
    rfl
  · rw [if_neg h1, if_neg h2, if_neg h1, if_neg h2, if_pos rfl]
    split <;> rfl
theorem dS_eq {a b : Int32} (ha : isB a) (hb : isB b) (x : Int32) : dS a b (if x &&& 128 = 0 then 0 else 1) = if a &&& 128 = b &&& 128 then (if a &&& 128 = x &&& 128 then 0 else 1) else 0 := by
  obtain ⟨n, hn, rfl⟩ := ha
  obtain ⟨k, hk, rfl⟩ := hb
  have h1 := (and128_dec n hn).2.1
  have h2 := (and128_dec k hk).2.1
  unfold dS
  rcases (and128_dec n hn).1 with e1 | e1 <;> rcases (and128_dec k hk).1 with e2 | e2 <;> rcases and128 x with e3 | e3 <;> simp [h1, h2, e1, e2, e3]
theorem dS_eq8 {a b : Int32} (ha : isB a) (hb : isB b) (x : Int32) : dS a b (if x &&& 8 = 0 then 0 else 1) = if a &&& 128 = b &&& 128 then (if (a &&& 128) >>> ((4 : Int32) &&& 31) = x &&& 8 then 0 else 1) else 0 := by
  obtain ⟨n, hn, rfl⟩ := ha
  obtain ⟨k, hk, rfl⟩ := hb
  have h1 := (and128_dec n hn).2.1
  have h2 := (and128_dec k hk).2.1
  rw [(and128_dec n hn).2.2.1]
  unfold dS
  rcases (and128_dec n hn).1 with e1 | e1 <;> rcases (and128_dec k hk).1 with e2 | e2 <;> rcases and8 x with e3 | e3 <;> simp [h1, h2, e1, e2, e3]
-- sums
def vS (a b sum : Int32) : Int32 := if a &&& 128 = b &&& 128 then (if a &&& 128 = sum &&& 128 then 0 else 1) else 0
def sumF (f a b sum : Int32) : Int32 := mkF (fput (fput f 1 (if sum ≤ 255 then 0 else 1)) 64 (vS a b sum)) (sum &&& 255)
theorem M_add (rt : MS) (b : Int32) : f_M_add rt b = ((rt.1 0 + b + (rt.1 5 &&& 1)) &&& 255, tV rt 5 (sumF (rt.1 5) (rt.1 0) b (rt.1 0 + b + (rt.1 5 &&& 1)))) := by
  have key : ∀ (sum c : Int32), f_M_add_28 rt b sum c 1 = (sum &&& 255, tV rt 5 (mkF (fput (fput (rt.1 5) 1 c) 64 (vS (rt.1 0) b sum)) (sum &&& 255))) := by
    intro sum c
    have k2 : ∀ (u : MS) (v : Int32), f_M_add_71 u sum v 64 = (sum &&& 255, tV u 5 (mkF (fput (u.1 5) 64 v) (sum &&& 255))) := by
      intro u v
      have e : f_M_add_71 u sum v 64 = ((f_M_mark (f_M_put u 64 v) (sum &&& 255)).1, (f_M_mark (f_M_put u 64 v) (sum &&& 255)).2) := rfl
      rw [e, M_put, M_mark, tV_tV]
      rfl
    have e : f_M_add_28 rt b sum c 1 = (if ((f_M_put rt 1 c).1 0 &&& 128) = (b &&& 128) then (if ((f_M_put rt 1 c).1 0 &&& 128) = (sum &&& 128) then f_M_add_71 (f_M_put rt 1 c) sum 0 64 else f_M_add_71 (f_M_put rt 1 c) sum 1 64) else f_M_add_71 (f_M_put rt 1 c) sum 0 64) := rfl
    rw [e, M_put, k2, k2, tV_tV, tV_tV]
    unfold vS
    show (if rt.1 0 &&& 128 = b &&& 128 then (if rt.1 0 &&& 128 = sum &&& 128 then _ else _) else _) = _
    split
    · split <;> rfl
    · rfl
  have e : f_M_add rt b = (if (rt.1 0 + b + (rt.1 5 &&& 1)) ≤ 255 then f_M_add_28 rt b (rt.1 0 + b + (rt.1 5 &&& 1)) 0 1 else f_M_add_28 rt b (rt.1 0 + b + (rt.1 5 &&& 1)) 1 1) := rfl
  rw [e, key, key]
  unfold sumF
  split <;> rfl
theorem R_flags {st : CS} {b : Int32} (hg : Rg st) (hb : isB b) (sum : Int32) : f_R_flagsOfSum st b sum = sV st 5 (sumF (st.1 5) (st.1 0) b sum) := by
  have k3 : ∀ (u : CS) (neg : Int32), f_R_flagsOfSum_35 u sum neg b 64 = sV u 5 (nzF (fput (u.1 5) 64 (dS (u.1 0) b neg)) (sum &&& 255)) := by
    intro u neg
    have e : f_R_flagsOfSum_35 u sum neg b 64 = f_R_putNz (f_R_put (f_R_differsInSign u b neg).2 64 (f_R_differsInSign u b neg).1) (sum &&& 255) := rfl
    rw [e, R_dS, R_put, R_nz, sV_sV]
    rfl
  have key : ∀ c : Int32, f_R_flagsOfSum_14 st b sum c 1 = sV st 5 (mkF (fput (fput (st.1 5) 1 c) 64 (vS (st.1 0) b sum)) (sum &&& 255)) := by
    intro c
    have e : f_R_flagsOfSum_14 st b sum c 1 = (if (sum &&& 128) = 0 then f_R_flagsOfSum_35 (f_R_put st 1 c) sum 0 b 64 else f_R_flagsOfSum_35 (f_R_put st 1 c) sum 1 b 64) := rfl
    have hd := dS_eq hg.1 hb sum
    rw [e, R_put, k3, k3, sV_sV, sV_sV]
    have hn := nz_eq (isF_put (isF_put hg.2.2.2.2.2 1 (by decide) c) 64 (by decide) (vS (st.1 0) b sum)) (isB_and sum)
    unfold vS at hn ⊢
    rw [← hd] at hn ⊢
    have hn : nzF (fput (fput (st.1 5) 1 c) 64 (dS (st.1 0) b (if sum &&& 128 = 0 then 0 else 1))) (sum &&& 255) = mkF (fput (fput (st.1 5) 1 c) 64 (dS (st.1 0) b (if sum &&& 128 = 0 then 0 else 1))) (sum &&& 255) := hn
    rw [← hn]
    by_cases h : sum &&& 128 = 0
    · rw [if_pos h, if_pos h]; rfl
    · rw [if_neg h, if_neg h]; rfl
  unfold f_R_flagsOfSum sumF
  by_cases h : sum ≤ 255
  · rw [if_pos h, if_pos h]; exact key 0
  · rw [if_neg h, if_neg h]; exact key 1
theorem isF_sum {f : Int32} (h : isF f) (a b sum : Int32) : isF (sumF f a b sum) := isF_mk (isF_put (isF_put h 1 (by decide) _) 64 (by decide) _) _
