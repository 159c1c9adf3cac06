/-! my own frame: pure steps, the world in a walk, contracts over a whole world, calls -/
def bS {α β : Type} (x : α) (f : α → β) : β := f x
def bP {α β γ : Type} (x : α × β) (f : α → β → γ) : γ := f x.1 x.2
theorem bS_go {α β : Type} {x y : α} {f : α → β} {r : β} (h : bS x f = r) (e : x = y) : f y = r := by subst e; exact h
theorem bP_go {α β γ : Type} {x : α × β} {a : α} {b : β} {f : α → β → γ} {r : γ} (h : bP x f = r) (e : x = (a, b)) : f a b = r := by subst e; exact h
theorem if_go {α : Type} {c : Prop} [Decidable c] {a b r : α} (h : (if c then a else b) = r) (hc : c) : a = r := by rw [if_pos hc] at h; exact h
theorem if_no {α : Type} {c : Prop} [Decidable c] {a b r : α} (h : (if c then a else b) = r) (hc : ¬ c) : b = r := by rw [if_neg hc] at h; exact h
theorem b0 : (0 : Int32) = 0 ∨ (0 : Int32) = 1 := Or.inl rfl
theorem b1 : (1 : Int32) = 0 ∨ (1 : Int32) = 1 := Or.inr rfl
theorem ck_nz {x : Int32} (h : x = 0 ∨ x = 1) : narrow .boolean (.int x) = .int x := by rcases h with rfl | rfl <;> rfl
theorem ck_fz {x : Int32} (h : x = 0 ∨ x = 1) : fits .boolean (.int x) = true := by rcases h with rfl | rfl <;> rfl
theorem ck_fr {A : Nat → Prop} {ws : va_W} {H0 H : Heap} {locs : List Loc} (hD : va_D A ws) (hS : va_S A H0 H locs) (hA : ∀ q, H0.size ≤ q → A q) : ∀ q, va_A ws H.size q → A q := by
  intro q h
  rcases h with ⟨k, e, h⟩ | h
  · exact hD.2 k (q, e) h
  · exact hA q (Nat.le_trans hS.1 h)
/-- what stands through a walk: machine, code, words, classes, constants, frame -/
def FX (p : Program) (m : MethodId) (c : Code) (cc : ByteArray) (nL : Nat) (s : State) (args : Array Value) (own : String) (g : CG) (A : Nat → Prop) : Prop :=
  (p.tables.exec = Jvm.exec ∧ c.code = cc ∧ c.maxLocals = nL ∧ s.vm.findClass own = some m.cls ∧ ∀ w ∈ ALL, w.before args s = true) ∧ va_K g.1 CL (tysG g) s ∧ ENV g A s s.heap ∧ ∀ q, s.heap.size ≤ q → A q
/-- the world now -/
def HC (g : CG) (A : Nat → Prop) (s : State) (ws : va_W) (H : Heap) (locs : List Loc) : Prop := va_P g.1 CL ws H ∧ va_D A ws ∧ va_S A s.heap H locs
def pre7 (g : CG) (ws : va_W) (sz : Nat) (U : State) : Prop := U.heap.size = sz ∧ va_P g.1 CL ws U.heap ∧ va_K g.1 CL (tysG g) U ∧ va_D (fun _ => True) ws ∧ ENV g (va_A ws sz) U U.heap
def post7 (g : CG) (w0 w1 : va_W) (sz : Nat) (t : State) : Prop := va_P g.1 CL w1 t.heap ∧ va_K g.1 CL (tysG g) t ∧ va_D (va_A w0 sz) w1
theorem pre7_blind {g : CG} {ws : va_W} {sz : Nat} {av : List Value} : FrameBlind (va_Pc av (pre7 g ws sz)) := fun a U f mk q => by
  obtain ⟨q0, q1, qP, qK, qD, qE⟩ := q
  exact ⟨q0, q1, qP, va_K.moved (u := U) (U := U.calling f mk a) (Vm.Alike.refl U.vm) qK, qD, ENV_same (s := U) (U := U.calling f mk a) rfl qE⟩
section KA
variable {σ : Type}
/-- contracts of methods that keep the world's shape: an int, nothing, a long, a constant comes back -/
def KI (l : Launch) (g : CG) (y : MethodName) (ws : List Cond) (rm : Room) (av : List Value) (Wd : σ → va_W) (st : σ) (f : Int32 × σ) : Prop :=
  ∀ sz : Nat, Met l y ws rm (va_Pc av (pre7 g (Wd st) sz)) (va_Qi (fun r u => f = (r, u)) (fun u t => post7 g (Wd st) (Wd u) sz t) (va_A (Wd st) sz)) 0 0 (va_A (Wd st) sz)
def KZ (l : Launch) (g : CG) (y : MethodName) (ws : List Cond) (rm : Room) (av : List Value) (Wd : σ → va_W) (st : σ) (f : Int32 × σ) : Prop :=
  ∀ sz : Nat, Met l y ws rm (va_Pc av (pre7 g (Wd st) sz)) (va_Qi (fun r u => f = (r, u) ∧ (r = 0 ∨ r = 1)) (fun u t => post7 g (Wd st) (Wd u) sz t) (va_A (Wd st) sz)) 0 0 (va_A (Wd st) sz)
def KJ (l : Launch) (g : CG) (y : MethodName) (ws : List Cond) (rm : Room) (av : List Value) (Wd : σ → va_W) (st : σ) (f : Int64 × σ) : Prop :=
  ∀ sz : Nat, Met l y ws rm (va_Pc av (pre7 g (Wd st) sz)) (va_Ql (fun r u => f = (r, u)) (fun u t => post7 g (Wd st) (Wd u) sz t) (va_A (Wd st) sz)) 0 0 (va_A (Wd st) sz)
def KV (l : Launch) (g : CG) (y : MethodName) (ws : List Cond) (rm : Room) (av : List Value) (Wd : σ → va_W) (st : σ) (f : σ) : Prop :=
  ∀ sz : Nat, Met l y ws rm (va_Pc av (pre7 g (Wd st) sz)) (va_Qv (fun u => f = u) (fun u t => post7 g (Wd st) (Wd u) sz t) (va_A (Wd st) sz)) 0 0 (va_A (Wd st) sz)
def KE (ad : Nat → Nat) (N : Nat) (l : Launch) (g : CG) (y : MethodName) (ws : List Cond) (rm : Room) (av : List Value) (Wd : σ → va_W) (st : σ) (f : Fin N × σ) : Prop :=
  ∀ sz : Nat, Met l y ws rm (va_Pc av (pre7 g (Wd st) sz)) (va_Qr (fun u => f = u) (fun u a t => a = ad u.1.val ∧ post7 g (Wd st) (Wd u.2) sz t) (va_A (Wd st) sz)) 0 0 (va_A (Wd st) sz)
end KA
section KW
variable {σ : Type} {p : Program} {l : Launch} {e : Env} {R : Room} {s : State} {m : MethodId} {args : Array Value} {below : List Frame} {meth : Method} {c : Code} {H : Heap} {locs : List Loc} {cells slots : Nat} {Q : State → Prop}
variable {cc bytes : ByteArray} {pc nL maxL index : Nat} {ls : Array Slot} {rest st0 : List Value} {own host : String} {g : CG} {A : Nat → Prop} {y : MethodName} {ret : Option FieldType} {rm : Room} {Wd : σ → va_W} {st : σ} {As : List Value} {b q0 ci : Nat} {fs : List Value} {q : vw_C}
theorem FX_xb (X : FX p m c cc nL s args own g A) : p.tables.exec = Jvm.exec ∧ c.code = cc := ⟨X.1.1, X.1.2.1⟩
theorem HC_pre (X : FX p m c cc nL s args own g A) (hC : HC g A s (Wd st) H locs) (av : List Value) : PreS s H (va_Pc av (pre7 g (Wd st) H.size)) av := by
  obtain ⟨hP, hD, hS⟩ := hC
  obtain ⟨-, hK, hE, hA⟩ := X
  exact ⟨pre7_blind, fun U hU hW => ⟨rfl, by rw [hU], by rw [hU]; exact hP, va_K.moved hW.alike hK, hD.weaken (fun _ _ _ _ => trivial), by rw [hU]; exact ENV_narrow (ENV_warm hW (ENV_kept hE hS.2.1)) (ck_fr hD hS hA)⟩⟩
theorem HC_behind {w1 : va_W} {t : State} {H1 : Heap} {locs1 : List Loc} (X : FX p m c cc nL s args own g A) (hC : HC g A s (Wd st) H locs) (ht : t.heap = H1) (hB : post7 g (Wd st) w1 H.size t) (hS : va_S A s.heap H1 locs1) : HC g A s w1 H1 locs1 :=
  ⟨by rw [← ht]; exact hB.1, hB.2.2.weaken (fun _ _ _ h => ck_fr hC.2.1 hC.2.2 X.2.2.2 _ h), hS⟩
abbrev CNV (R : Room) (s : State) (args : Array Value) (own host : String) (index : Nat) (y : MethodName) (bytes : ByteArray) (maxL : Nat) (ret : Option FieldType) (rm : Room) (n : Nat) : Prop :=
  va_CN R s args own index y host bytes maxL ret (Cond.code y bytes maxL ret :: ALL) rm 0 0 n ∧ (Cond.instanceMethod y).before args s = true ∧ (Cond.selects y.cls y y).before args s = true
theorem callIN {f : Int32 × σ} (X : FX p m c cc nL s args own g A) (hM : KI l g y (Cond.code y bytes maxL ret :: ALL) rm (.ref b :: As) Wd st f) (hC : HC g A s (Wd st) H locs)
    (cn : CNV R s args own host index y bytes maxL ret rm As.length) (he : (Wd st)[q0]? = some (b, .inr (ci, fs))) (hc : CL[ci]? = some q) (hq : q.1 = y.cls) (hsize : ls.size = nL) (hroom : (rest.map fun v => v.category).sum ≤ 8) (hst : st0 = As.reverse ++ .ref b :: rest) (hdg : decode cc pc = .ok (.invokevirtual index, 3)) (hf : cells ≤ R.cells ∧ slots ≤ R.slots)
    (kk : ∀ (r : Int32) (u : σ) (H1 : Heap) (locs1 : List Loc), f = (r, u) → HC g A s (Wd u) H1 locs1 → W p l e R s m args below meth c H1 locs1 cells slots Q (F0 m (pc + 3) ls (.int r :: rest))) : W p l e R s m args below meth c H locs cells slots Q (F0 m pc ls st0) := by
  have hpre := HC_pre X hC (.ref b :: As)
  have hrec := va_recv X.2.1 hC.1 hc he
  rw [hq] at hrec
  refine va_calli (va_runVN (As := As) (rest := rest) X.1 (hM H.size) cn ⟨hpre.1, hrec, hpre.2⟩ rfl rfl hsize hst (lv_room hroom) hdg hf) hC.2.2 (fun q _ h => ck_fr hC.2.1 hC.2.2 X.2.2.2 q h) (ck_fr hC.2.1 hC.2.2 X.2.2.2) (fun r u t H1 locs1 ht hvm hw hB hz1 hk1 hS => kk r u H1 locs1 hw (HC_behind X hC ht hB hS))
theorem callZN {f : Int32 × σ} (X : FX p m c cc nL s args own g A) (hM : KZ l g y (Cond.code y bytes maxL ret :: ALL) rm (.ref b :: As) Wd st f) (hC : HC g A s (Wd st) H locs)
    (cn : CNV R s args own host index y bytes maxL ret rm As.length) (he : (Wd st)[q0]? = some (b, .inr (ci, fs))) (hc : CL[ci]? = some q) (hq : q.1 = y.cls) (hsize : ls.size = nL) (hroom : (rest.map fun v => v.category).sum ≤ 8) (hst : st0 = As.reverse ++ .ref b :: rest) (hdg : decode cc pc = .ok (.invokevirtual index, 3)) (hf : cells ≤ R.cells ∧ slots ≤ R.slots)
    (kk : ∀ (r : Int32) (u : σ) (H1 : Heap) (locs1 : List Loc), f = (r, u) → (r = 0 ∨ r = 1) → HC g A s (Wd u) H1 locs1 → W p l e R s m args below meth c H1 locs1 cells slots Q (F0 m (pc + 3) ls (.int r :: rest))) : W p l e R s m args below meth c H locs cells slots Q (F0 m pc ls st0) := by
  have hpre := HC_pre X hC (.ref b :: As)
  have hrec := va_recv X.2.1 hC.1 hc he
  rw [hq] at hrec
  refine va_calli (va_runVN (As := As) (rest := rest) X.1 (hM H.size) cn ⟨hpre.1, hrec, hpre.2⟩ rfl rfl hsize hst (lv_room hroom) hdg hf) hC.2.2 (fun q _ h => ck_fr hC.2.1 hC.2.2 X.2.2.2 q h) (ck_fr hC.2.1 hC.2.2 X.2.2.2) (fun r u t H1 locs1 ht hvm hw hB hz1 hk1 hS => kk r u H1 locs1 hw.1 hw.2 (HC_behind X hC ht hB hS))
theorem callVN {f : σ} (X : FX p m c cc nL s args own g A) (hM : KV l g y (Cond.code y bytes maxL ret :: ALL) rm (.ref b :: As) Wd st f) (hC : HC g A s (Wd st) H locs)
    (cn : CNV R s args own host index y bytes maxL ret rm As.length) (he : (Wd st)[q0]? = some (b, .inr (ci, fs))) (hc : CL[ci]? = some q) (hq : q.1 = y.cls) (hsize : ls.size = nL) (hroom : (rest.map fun v => v.category).sum ≤ 8) (hst : st0 = As.reverse ++ .ref b :: rest) (hdg : decode cc pc = .ok (.invokevirtual index, 3)) (hf : cells ≤ R.cells ∧ slots ≤ R.slots)
    (kk : ∀ (u : σ) (H1 : Heap) (locs1 : List Loc), f = u → HC g A s (Wd u) H1 locs1 → W p l e R s m args below meth c H1 locs1 cells slots Q (F0 m (pc + 3) ls rest)) : W p l e R s m args below meth c H locs cells slots Q (F0 m pc ls st0) := by
  have hpre := HC_pre X hC (.ref b :: As)
  have hrec := va_recv X.2.1 hC.1 hc he
  rw [hq] at hrec
  refine va_callv (va_runVN (As := As) (rest := rest) X.1 (hM H.size) cn ⟨hpre.1, hrec, hpre.2⟩ rfl rfl hsize hst (lv_room hroom) hdg hf) hC.2.2 (fun q _ h => ck_fr hC.2.1 hC.2.2 X.2.2.2 q h) (ck_fr hC.2.1 hC.2.2 X.2.2.2) (fun u t H1 locs1 ht hvm hw hB hz1 hk1 hS => kk u H1 locs1 hw (HC_behind X hC ht hB hS))
theorem callJN {f : Int64 × σ} (X : FX p m c cc nL s args own g A) (hM : KJ l g y (Cond.code y bytes maxL ret :: ALL) rm (.ref b :: As) Wd st f) (hC : HC g A s (Wd st) H locs)
    (cn : CNV R s args own host index y bytes maxL ret rm As.length) (he : (Wd st)[q0]? = some (b, .inr (ci, fs))) (hc : CL[ci]? = some q) (hq : q.1 = y.cls) (hsize : ls.size = nL) (hroom : (rest.map fun v => v.category).sum ≤ 8) (hst : st0 = As.reverse ++ .ref b :: rest) (hdg : decode cc pc = .ok (.invokevirtual index, 3)) (hf : cells ≤ R.cells ∧ slots ≤ R.slots)
    (kk : ∀ (r : Int64) (u : σ) (H1 : Heap) (locs1 : List Loc), f = (r, u) → HC g A s (Wd u) H1 locs1 → W p l e R s m args below meth c H1 locs1 cells slots Q (F0 m (pc + 3) ls (.long r :: rest))) : W p l e R s m args below meth c H locs cells slots Q (F0 m pc ls st0) := by
  have hpre := HC_pre X hC (.ref b :: As)
  have hrec := va_recv X.2.1 hC.1 hc he
  rw [hq] at hrec
  refine va_calll (va_runVN (As := As) (rest := rest) X.1 (hM H.size) cn ⟨hpre.1, hrec, hpre.2⟩ rfl rfl hsize hst (lv_room hroom) hdg hf) hC.2.2 (fun q _ h => ck_fr hC.2.1 hC.2.2 X.2.2.2 q h) (ck_fr hC.2.1 hC.2.2 X.2.2.2) (fun r u t H1 locs1 ht hvm hw hB hz1 hk1 hS => kk r u H1 locs1 hw (HC_behind X hC ht hB hS))
theorem callEN {ad : Nat → Nat} {N : Nat} {f : Fin N × σ} (X : FX p m c cc nL s args own g A) (hM : KE ad N l g y (Cond.code y bytes maxL ret :: ALL) rm (.ref b :: As) Wd st f) (hC : HC g A s (Wd st) H locs)
    (cn : CNV R s args own host index y bytes maxL ret rm As.length) (he : (Wd st)[q0]? = some (b, .inr (ci, fs))) (hc : CL[ci]? = some q) (hq : q.1 = y.cls) (hsize : ls.size = nL) (hroom : (rest.map fun v => v.category).sum ≤ 8) (hst : st0 = As.reverse ++ .ref b :: rest) (hdg : decode cc pc = .ok (.invokevirtual index, 3)) (hf : cells ≤ R.cells ∧ slots ≤ R.slots)
    (kk : ∀ (r : Fin N) (u : σ) (H1 : Heap) (locs1 : List Loc), f = (r, u) → HC g A s (Wd u) H1 locs1 → W p l e R s m args below meth c H1 locs1 cells slots Q (F0 m (pc + 3) ls (.ref (ad r.val) :: rest))) : W p l e R s m args below meth c H locs cells slots Q (F0 m pc ls st0) := by
  have hpre := HC_pre X hC (.ref b :: As)
  have hrec := va_recv X.2.1 hC.1 hc he
  rw [hq] at hrec
  refine va_callr (va_runVN (As := As) (rest := rest) X.1 (hM H.size) cn ⟨hpre.1, hrec, hpre.2⟩ rfl rfl hsize hst (lv_room hroom) hdg hf) hC.2.2 (fun q _ h => ck_fr hC.2.1 hC.2.2 X.2.2.2 q h) (ck_fr hC.2.1 hC.2.2 X.2.2.2) (fun u a t H1 locs1 ht hvm hw hB hz1 hk1 hS => ?_)
  obtain ⟨rfl, hB⟩ := hB
  exact kk u.1 u.2 H1 locs1 hw (HC_behind X hC ht hB hS)
abbrev CNO (R : Room) (s : State) (args : Array Value) (own : String) (index : Nat) (y : MethodName) (bytes : ByteArray) (maxL : Nat) (ret : Option FieldType) (rm : Room) (n : Nat) : Prop :=
  CallW R s args own y.cls index y bytes maxL ret (Cond.code y bytes maxL ret :: ALL) rm 0 0 n
theorem callIO {f : Int32 × σ} (X : FX p m c cc nL s args own g A) (hM : KI l g y (Cond.code y bytes maxL ret :: ALL) rm (.ref b :: As) Wd st f) (hC : HC g A s (Wd st) H locs)
    (cn : CNO R s args own index y bytes maxL ret rm As.length) (he : (Wd st)[q0]? = some (b, .inr (ci, fs))) (hc : CL[ci]? = some q) (hq : q.1 = y.cls) (hsize : ls.size = nL) (hroom : (rest.map fun v => v.category).sum ≤ 8) (hst : st0 = As.reverse ++ .ref b :: rest) (hdg : decode cc pc = .ok (.invokevirtual index, 3)) (hf : cells ≤ R.cells ∧ slots ≤ R.slots)
    (kk : ∀ (r : Int32) (u : σ) (H1 : Heap) (locs1 : List Loc), f = (r, u) → HC g A s (Wd u) H1 locs1 → W p l e R s m args below meth c H1 locs1 cells slots Q (F0 m (pc + 3) ls (.int r :: rest))) : W p l e R s m args below meth c H locs cells slots Q (F0 m pc ls st0) := by
  have hpre := HC_pre X hC (.ref b :: As)
  have hrec := va_recv X.2.1 hC.1 hc he
  rw [hq] at hrec
  refine va_calli (va_runV (As := As) (rest := rest) X.1 (hM H.size) cn ⟨hpre.1, hrec, hpre.2⟩ rfl rfl hsize hst (lv_room hroom) hdg hf) hC.2.2 (fun q _ h => ck_fr hC.2.1 hC.2.2 X.2.2.2 q h) (ck_fr hC.2.1 hC.2.2 X.2.2.2) (fun r u t H1 locs1 ht hvm hw hB hz1 hk1 hS => kk r u H1 locs1 hw (HC_behind X hC ht hB hS))
theorem callZO {f : Int32 × σ} (X : FX p m c cc nL s args own g A) (hM : KZ l g y (Cond.code y bytes maxL ret :: ALL) rm (.ref b :: As) Wd st f) (hC : HC g A s (Wd st) H locs)
    (cn : CNO R s args own index y bytes maxL ret rm As.length) (he : (Wd st)[q0]? = some (b, .inr (ci, fs))) (hc : CL[ci]? = some q) (hq : q.1 = y.cls) (hsize : ls.size = nL) (hroom : (rest.map fun v => v.category).sum ≤ 8) (hst : st0 = As.reverse ++ .ref b :: rest) (hdg : decode cc pc = .ok (.invokevirtual index, 3)) (hf : cells ≤ R.cells ∧ slots ≤ R.slots)
    (kk : ∀ (r : Int32) (u : σ) (H1 : Heap) (locs1 : List Loc), f = (r, u) → (r = 0 ∨ r = 1) → HC g A s (Wd u) H1 locs1 → W p l e R s m args below meth c H1 locs1 cells slots Q (F0 m (pc + 3) ls (.int r :: rest))) : W p l e R s m args below meth c H locs cells slots Q (F0 m pc ls st0) := by
  have hpre := HC_pre X hC (.ref b :: As)
  have hrec := va_recv X.2.1 hC.1 hc he
  rw [hq] at hrec
  refine va_calli (va_runV (As := As) (rest := rest) X.1 (hM H.size) cn ⟨hpre.1, hrec, hpre.2⟩ rfl rfl hsize hst (lv_room hroom) hdg hf) hC.2.2 (fun q _ h => ck_fr hC.2.1 hC.2.2 X.2.2.2 q h) (ck_fr hC.2.1 hC.2.2 X.2.2.2) (fun r u t H1 locs1 ht hvm hw hB hz1 hk1 hS => kk r u H1 locs1 hw.1 hw.2 (HC_behind X hC ht hB hS))
theorem callVO {f : σ} (X : FX p m c cc nL s args own g A) (hM : KV l g y (Cond.code y bytes maxL ret :: ALL) rm (.ref b :: As) Wd st f) (hC : HC g A s (Wd st) H locs)
    (cn : CNO R s args own index y bytes maxL ret rm As.length) (he : (Wd st)[q0]? = some (b, .inr (ci, fs))) (hc : CL[ci]? = some q) (hq : q.1 = y.cls) (hsize : ls.size = nL) (hroom : (rest.map fun v => v.category).sum ≤ 8) (hst : st0 = As.reverse ++ .ref b :: rest) (hdg : decode cc pc = .ok (.invokevirtual index, 3)) (hf : cells ≤ R.cells ∧ slots ≤ R.slots)
    (kk : ∀ (u : σ) (H1 : Heap) (locs1 : List Loc), f = u → HC g A s (Wd u) H1 locs1 → W p l e R s m args below meth c H1 locs1 cells slots Q (F0 m (pc + 3) ls rest)) : W p l e R s m args below meth c H locs cells slots Q (F0 m pc ls st0) := by
  have hpre := HC_pre X hC (.ref b :: As)
  have hrec := va_recv X.2.1 hC.1 hc he
  rw [hq] at hrec
  refine va_callv (va_runV (As := As) (rest := rest) X.1 (hM H.size) cn ⟨hpre.1, hrec, hpre.2⟩ rfl rfl hsize hst (lv_room hroom) hdg hf) hC.2.2 (fun q _ h => ck_fr hC.2.1 hC.2.2 X.2.2.2 q h) (ck_fr hC.2.1 hC.2.2 X.2.2.2) (fun u t H1 locs1 ht hvm hw hB hz1 hk1 hS => kk u H1 locs1 hw (HC_behind X hC ht hB hS))
theorem callJO {f : Int64 × σ} (X : FX p m c cc nL s args own g A) (hM : KJ l g y (Cond.code y bytes maxL ret :: ALL) rm (.ref b :: As) Wd st f) (hC : HC g A s (Wd st) H locs)
    (cn : CNO R s args own index y bytes maxL ret rm As.length) (he : (Wd st)[q0]? = some (b, .inr (ci, fs))) (hc : CL[ci]? = some q) (hq : q.1 = y.cls) (hsize : ls.size = nL) (hroom : (rest.map fun v => v.category).sum ≤ 8) (hst : st0 = As.reverse ++ .ref b :: rest) (hdg : decode cc pc = .ok (.invokevirtual index, 3)) (hf : cells ≤ R.cells ∧ slots ≤ R.slots)
    (kk : ∀ (r : Int64) (u : σ) (H1 : Heap) (locs1 : List Loc), f = (r, u) → HC g A s (Wd u) H1 locs1 → W p l e R s m args below meth c H1 locs1 cells slots Q (F0 m (pc + 3) ls (.long r :: rest))) : W p l e R s m args below meth c H locs cells slots Q (F0 m pc ls st0) := by
  have hpre := HC_pre X hC (.ref b :: As)
  have hrec := va_recv X.2.1 hC.1 hc he
  rw [hq] at hrec
  refine va_calll (va_runV (As := As) (rest := rest) X.1 (hM H.size) cn ⟨hpre.1, hrec, hpre.2⟩ rfl rfl hsize hst (lv_room hroom) hdg hf) hC.2.2 (fun q _ h => ck_fr hC.2.1 hC.2.2 X.2.2.2 q h) (ck_fr hC.2.1 hC.2.2 X.2.2.2) (fun r u t H1 locs1 ht hvm hw hB hz1 hk1 hS => kk r u H1 locs1 hw (HC_behind X hC ht hB hS))
theorem callEO {ad : Nat → Nat} {N : Nat} {f : Fin N × σ} (X : FX p m c cc nL s args own g A) (hM : KE ad N l g y (Cond.code y bytes maxL ret :: ALL) rm (.ref b :: As) Wd st f) (hC : HC g A s (Wd st) H locs)
    (cn : CNO R s args own index y bytes maxL ret rm As.length) (he : (Wd st)[q0]? = some (b, .inr (ci, fs))) (hc : CL[ci]? = some q) (hq : q.1 = y.cls) (hsize : ls.size = nL) (hroom : (rest.map fun v => v.category).sum ≤ 8) (hst : st0 = As.reverse ++ .ref b :: rest) (hdg : decode cc pc = .ok (.invokevirtual index, 3)) (hf : cells ≤ R.cells ∧ slots ≤ R.slots)
    (kk : ∀ (r : Fin N) (u : σ) (H1 : Heap) (locs1 : List Loc), f = (r, u) → HC g A s (Wd u) H1 locs1 → W p l e R s m args below meth c H1 locs1 cells slots Q (F0 m (pc + 3) ls (.ref (ad r.val) :: rest))) : W p l e R s m args below meth c H locs cells slots Q (F0 m pc ls st0) := by
  have hpre := HC_pre X hC (.ref b :: As)
  have hrec := va_recv X.2.1 hC.1 hc he
  rw [hq] at hrec
  refine va_callr (va_runV (As := As) (rest := rest) X.1 (hM H.size) cn ⟨hpre.1, hrec, hpre.2⟩ rfl rfl hsize hst (lv_room hroom) hdg hf) hC.2.2 (fun q _ h => ck_fr hC.2.1 hC.2.2 X.2.2.2 q h) (ck_fr hC.2.1 hC.2.2 X.2.2.2) (fun u a t H1 locs1 ht hvm hw hB hz1 hk1 hS => ?_)
  obtain ⟨rfl, hB⟩ := hB
  exact kk u.1 u.2 H1 locs1 hw (HC_behind X hC ht hB hS)
theorem callIS {f : Int32 × σ} (X : FX p m c cc nL s args own g A) (hM : KI l g y (Cond.code y bytes maxL ret :: ALL) rm As Wd st f) (hC : HC g A s (Wd st) H locs)
    (cn : CallB R s args own index y bytes maxL ret (Cond.code y bytes maxL ret :: ALL) rm 0 0 As.length ∧ (Cond.static y).before args s = true) (hsize : ls.size = nL) (hroom : (rest.map fun v => v.category).sum ≤ 8) (hst : st0 = As.reverse ++ rest) (hdg : decode cc pc = .ok (.invokestatic index, 3)) (hf : cells ≤ R.cells ∧ slots ≤ R.slots)
    (kk : ∀ (r : Int32) (u : σ) (H1 : Heap) (locs1 : List Loc), f = (r, u) → HC g A s (Wd u) H1 locs1 → W p l e R s m args below meth c H1 locs1 cells slots Q (F0 m (pc + 3) ls (.int r :: rest))) : W p l e R s m args below meth c H locs cells slots Q (F0 m pc ls st0) := by
  have hpre := HC_pre X hC As
  refine va_calli (va_runS (As := As) (rest := rest) X.1 (hM H.size) cn hpre rfl rfl hsize hst (lv_room hroom) hdg hf) hC.2.2 (fun q _ h => ck_fr hC.2.1 hC.2.2 X.2.2.2 q h) (ck_fr hC.2.1 hC.2.2 X.2.2.2) (fun r u t H1 locs1 ht hvm hw hB hz1 hk1 hS => kk r u H1 locs1 hw (HC_behind X hC ht hB hS))
end KW
section KO
variable {σ : Type} {l : Launch} {g : CG} {y : MethodName} {cc : ByteArray} {nL : Nat} {rm : Room} {av : List Value} {Wd : σ → va_W} {st : σ}
theorem KI.ofW {f : Int32 × σ} (hy : plainName y.cls = true) (hlen : (lg_sl av).length ≤ nL)
    (body : ∀ (p : Program) (e : Env) (s : State) (m : MethodId) (args : Array Value) (below : List Frame) (meth : Method) (c : Code) (A : Nat → Prop) (Q : State → Prop) (ls : Array Slot) (Rv : Int32 × σ), FX p m c cc nL s args y.cls g A → f = Rv →
      (∀ {pc : Nat} {ls : Array Slot} {H : Heap} {locs : List Loc} {r : Int32} {u : σ}, decode cc pc = .ok (.ireturn, 1) → HC g A s (Wd u) H locs → (r, u) = Rv → W p l e rm s m args below meth c H locs 0 0 Q (F0 m pc ls [.int r])) →
      HC g A s (Wd st) s.heap [] → lv_has ls nL (lv_args 0 av) → W p l e rm s m args below meth c s.heap [] 0 0 Q (F0 m 0 ls [])) : KI l g y (Cond.code y cc nL (some .int) :: ALL) rm av Wd st f := by
  intro sz
  refine Met.ofW (cc := cc) (maxL := nL) (ret := (some .int)) hy rfl ?_
  intro p e s m args below meth c s₁ B hml hv
  obtain ⟨rfl, hsz, hP, hK, hD0, hE⟩ := hv
  have hts := atoms_spec (ws := Cond.code y cc nL (some .int) :: ALL) B.pre
  have hown : s.vm.findClass y.cls = some m.cls := findClass_of_methodNamed B.named
  have hlocks := B.notSynchronized
  subst hsz
  have hD := hD0.self (sz := s.heap.size)
  have hl := lv_entry av (n := nL) hlen
  rw [lg_entry_eq]
  exact body p e s m _ below meth c (va_A (Wd st) s.heap.size) _ _ f ⟨⟨B.exec, B.bytes, hml, hown, fun w h => hts w (List.mem_cons_of_mem _ h)⟩, hK, hE, fun q h => Or.inr h⟩ rfl
    (fun hdg hC he => W.iret B.exec B.bytes B.returns (fun t ht hW => ⟨⟨_, _, rfl, he.symm, by rw [ht]; exact hC.1, va_K.moved hW.alike hK, hC.2.1⟩, hC.2.2.F ht⟩) hC.2.2.2.2 hdg) ⟨hP, hD, va_S.rf⟩ hl
theorem KZ.ofW {f : Int32 × σ} (hy : plainName y.cls = true) (hlen : (lg_sl av).length ≤ nL)
    (body : ∀ (p : Program) (e : Env) (s : State) (m : MethodId) (args : Array Value) (below : List Frame) (meth : Method) (c : Code) (A : Nat → Prop) (Q : State → Prop) (ls : Array Slot) (Rv : Int32 × σ), FX p m c cc nL s args y.cls g A → f = Rv →
      (∀ {pc : Nat} {ls : Array Slot} {H : Heap} {locs : List Loc} {r : Int32} {u : σ}, decode cc pc = .ok (.ireturn, 1) → (r = 0 ∨ r = 1) → HC g A s (Wd u) H locs → (r, u) = Rv → W p l e rm s m args below meth c H locs 0 0 Q (F0 m pc ls [.int r])) →
      HC g A s (Wd st) s.heap [] → lv_has ls nL (lv_args 0 av) → W p l e rm s m args below meth c s.heap [] 0 0 Q (F0 m 0 ls [])) : KZ l g y (Cond.code y cc nL (some .boolean) :: ALL) rm av Wd st f := by
  intro sz
  refine Met.ofW (cc := cc) (maxL := nL) (ret := (some .boolean)) hy rfl ?_
  intro p e s m args below meth c s₁ B hml hv
  obtain ⟨rfl, hsz, hP, hK, hD0, hE⟩ := hv
  have hts := atoms_spec (ws := Cond.code y cc nL (some .boolean) :: ALL) B.pre
  have hown : s.vm.findClass y.cls = some m.cls := findClass_of_methodNamed B.named
  have hlocks := B.notSynchronized
  subst hsz
  have hD := hD0.self (sz := s.heap.size)
  have hl := lv_entry av (n := nL) hlen
  rw [lg_entry_eq]
  exact body p e s m _ below meth c (va_A (Wd st) s.heap.size) _ _ f ⟨⟨B.exec, B.bytes, hml, hown, fun w h => hts w (List.mem_cons_of_mem _ h)⟩, hK, hE, fun q h => Or.inr h⟩ rfl
    (fun hdg hz hC he => W.zret B.exec B.bytes B.returns (ck_nz hz) (fun t ht hW => ⟨⟨_, _, rfl, ⟨he.symm, hz⟩, by rw [ht]; exact hC.1, va_K.moved hW.alike hK, hC.2.1⟩, hC.2.2.F ht⟩) hC.2.2.2.2 hdg) ⟨hP, hD, va_S.rf⟩ hl
theorem KJ.ofW {f : Int64 × σ} (hy : plainName y.cls = true) (hlen : (lg_sl av).length ≤ nL)
    (body : ∀ (p : Program) (e : Env) (s : State) (m : MethodId) (args : Array Value) (below : List Frame) (meth : Method) (c : Code) (A : Nat → Prop) (Q : State → Prop) (ls : Array Slot) (Rv : Int64 × σ), FX p m c cc nL s args y.cls g A → f = Rv →
      (∀ {pc : Nat} {ls : Array Slot} {H : Heap} {locs : List Loc} {r : Int64} {u : σ}, decode cc pc = .ok (.lreturn, 1) → HC g A s (Wd u) H locs → (r, u) = Rv → W p l e rm s m args below meth c H locs 0 0 Q (F0 m pc ls [.long r])) →
      HC g A s (Wd st) s.heap [] → lv_has ls nL (lv_args 0 av) → W p l e rm s m args below meth c s.heap [] 0 0 Q (F0 m 0 ls [])) : KJ l g y (Cond.code y cc nL (some .long) :: ALL) rm av Wd st f := by
  intro sz
  refine Met.ofW (cc := cc) (maxL := nL) (ret := (some .long)) hy rfl ?_
  intro p e s m args below meth c s₁ B hml hv
  obtain ⟨rfl, hsz, hP, hK, hD0, hE⟩ := hv
  have hts := atoms_spec (ws := Cond.code y cc nL (some .long) :: ALL) B.pre
  have hown : s.vm.findClass y.cls = some m.cls := findClass_of_methodNamed B.named
  have hlocks := B.notSynchronized
  subst hsz
  have hD := hD0.self (sz := s.heap.size)
  have hl := lv_entry av (n := nL) hlen
  rw [lg_entry_eq]
  exact body p e s m _ below meth c (va_A (Wd st) s.heap.size) _ _ f ⟨⟨B.exec, B.bytes, hml, hown, fun w h => hts w (List.mem_cons_of_mem _ h)⟩, hK, hE, fun q h => Or.inr h⟩ rfl
    (fun hdg hC he => W.lret B.exec B.bytes B.returns (fun t ht hW => ⟨⟨_, _, rfl, he.symm, by rw [ht]; exact hC.1, va_K.moved hW.alike hK, hC.2.1⟩, hC.2.2.F ht⟩) hC.2.2.2.2 hdg) ⟨hP, hD, va_S.rf⟩ hl
theorem KV.ofW {f : σ} (hy : plainName y.cls = true) (hlen : (lg_sl av).length ≤ nL)
    (body : ∀ (p : Program) (e : Env) (s : State) (m : MethodId) (args : Array Value) (below : List Frame) (meth : Method) (c : Code) (A : Nat → Prop) (Q : State → Prop) (ls : Array Slot) (Rv : σ), FX p m c cc nL s args y.cls g A → f = Rv →
      (∀ {pc : Nat} {ls : Array Slot} {H : Heap} {locs : List Loc} {u : σ}, decode cc pc = .ok (.return_, 1) → HC g A s (Wd u) H locs → u = Rv → W p l e rm s m args below meth c H locs 0 0 Q (F0 m pc ls [])) →
      HC g A s (Wd st) s.heap [] → lv_has ls nL (lv_args 0 av) → W p l e rm s m args below meth c s.heap [] 0 0 Q (F0 m 0 ls [])) : KV l g y (Cond.code y cc nL none :: ALL) rm av Wd st f := by
  intro sz
  refine Met.ofW (cc := cc) (maxL := nL) (ret := none) hy rfl ?_
  intro p e s m args below meth c s₁ B hml hv
  obtain ⟨rfl, hsz, hP, hK, hD0, hE⟩ := hv
  have hts := atoms_spec (ws := Cond.code y cc nL none :: ALL) B.pre
  have hown : s.vm.findClass y.cls = some m.cls := findClass_of_methodNamed B.named
  have hlocks := B.notSynchronized
  subst hsz
  have hD := hD0.self (sz := s.heap.size)
  have hl := lv_entry av (n := nL) hlen
  rw [lg_entry_eq]
  exact body p e s m _ below meth c (va_A (Wd st) s.heap.size) _ _ f ⟨⟨B.exec, B.bytes, hml, hown, fun w h => hts w (List.mem_cons_of_mem _ h)⟩, hK, hE, fun q h => Or.inr h⟩ rfl
    (fun hdg hC he => W.vret B.exec B.bytes B.returns (fun t ht hW => ⟨⟨_, rfl, he.symm, by rw [ht]; exact hC.1, va_K.moved hW.alike hK, hC.2.1⟩, hC.2.2.F ht⟩) hC.2.2.2.2 hdg) ⟨hP, hD, va_S.rf⟩ hl
theorem KE.ofW {E : String} {ad : Nat → Nat} {N : Nat} {f : Fin N × σ} (hy : plainName y.cls = true) (hlen : (lg_sl av).length ≤ nL)
    (body : ∀ (p : Program) (e : Env) (s : State) (m : MethodId) (args : Array Value) (below : List Frame) (meth : Method) (c : Code) (A : Nat → Prop) (Q : State → Prop) (ls : Array Slot) (Rv : Fin N × σ), FX p m c cc nL s args y.cls g A → f = Rv →
      (∀ {pc : Nat} {ls : Array Slot} {H : Heap} {locs : List Loc} {r : Fin N} {u : σ}, decode cc pc = .ok (.areturn, 1) → HC g A s (Wd u) H locs → (r, u) = Rv → W p l e rm s m args below meth c H locs 0 0 Q (F0 m pc ls [.ref (ad r.val)])) →
      HC g A s (Wd st) s.heap [] → lv_has ls nL (lv_args 0 av) → W p l e rm s m args below meth c s.heap [] 0 0 Q (F0 m 0 ls [])) : KE ad N l g y (Cond.code y cc nL (some (.object E)) :: ALL) rm av Wd st f := by
  intro sz
  refine Met.ofW (cc := cc) (maxL := nL) (ret := (some (.object E))) hy rfl ?_
  intro p e s m args below meth c s₁ B hml hv
  obtain ⟨rfl, hsz, hP, hK, hD0, hE⟩ := hv
  have hts := atoms_spec (ws := Cond.code y cc nL (some (.object E)) :: ALL) B.pre
  have hown : s.vm.findClass y.cls = some m.cls := findClass_of_methodNamed B.named
  have hlocks := B.notSynchronized
  subst hsz
  have hD := hD0.self (sz := s.heap.size)
  have hl := lv_entry av (n := nL) hlen
  rw [lg_entry_eq]
  exact body p e s m _ below meth c (va_A (Wd st) s.heap.size) _ _ f ⟨⟨B.exec, B.bytes, hml, hown, fun w h => hts w (List.mem_cons_of_mem _ h)⟩, hK, hE, fun q h => Or.inr h⟩ rfl
    (fun hdg hC he => W.aret B.exec B.bytes B.returns (Or.inl ⟨_, rfl⟩) (Or.inr ⟨_, rfl⟩) (fun t ht hW => ⟨⟨_, _, rfl, he.symm, rfl, by rw [ht]; exact hC.1, va_K.moved hW.alike hK, hC.2.1⟩, hC.2.2.F ht⟩) hC.2.2.2.2 hdg) ⟨hP, hD, va_S.rf⟩ hl
end KO
