/-! contracts of methods (printed by my own program: pure pictures and walks) -/
def f_M_addDecimal_184 (st : MS) (v3 : Int32) (v4 : Int32) (s0 : Int32) (s1 : Int32) : Int32 × MS := bS (f_M_put st s1 s0) (fun st15 => ((((v4 &&& 15) <<< ((4 : Int32) &&& 31)) ||| (v3 &&& 15)), st15))
def f_M_addDecimal_168 (st : MS) (v3 : Int32) (s0 : Int32) : Int32 × MS := if s0 ≤ 15 then (f_M_addDecimal_184 st v3 s0 0 1) else (f_M_addDecimal_184 st v3 s0 1 1)
def f_M_addDecimal_148 (st : MS) (v3 : Int32) (v4 : Int32) (s0 : Int32) (s1 : Int32) : Int32 × MS := bS (f_M_put st s1 s0) (fun st12 => if v4 ≤ 9 then (f_M_addDecimal_168 st12 v3 v4) else (f_M_addDecimal_168 st12 v3 (v4 + 6)))
def f_M_addDecimal_147 (st : MS) (v3 : Int32) (v4 : Int32) (s0 : Int32) : Int32 × MS := f_M_addDecimal_148 st v3 v4 0 s0
def f_M_addDecimal_103 (st : MS) (v1 : Int32) (v3 : Int32) (v4 : Int32) (s0 : Int32) (s1 : Int32) : Int32 × MS := bS (f_M_put st s1 s0) (fun st9 => if ((st9.1 0) &&& 128) = (v1 &&& 128) then (if (((st9.1 0) &&& 128) >>> ((4 : Int32) &&& 31)) = (v4 &&& 8) then (f_M_addDecimal_147 st9 v3 v4 64) else (f_M_addDecimal_148 st9 v3 v4 1 64)) else (f_M_addDecimal_147 st9 v3 v4 64))
def f_M_addDecimal_83 (st : MS) (v1 : Int32) (v3 : Int32) (v4 : Int32) (s0 : Int32) (s1 : Int32) : Int32 × MS := bS (f_M_put st s1 s0) (fun st7 => if (v4 &&& 8) = 0 then (f_M_addDecimal_103 st7 v1 v3 v4 0 128) else (f_M_addDecimal_103 st7 v1 v3 v4 1 128))
def f_M_addDecimal_58 (st : MS) (v1 : Int32) (v2 : Int32) (v3 : Int32) (s0 : Int32) (s1 : Int32) : Int32 × MS := bS ((s1 + s0) : Int32) (fun y5 => if ((((st.1 0) + v1) + v2) &&& 255) = 0 then (f_M_addDecimal_83 st v1 v3 y5 1 2) else (f_M_addDecimal_83 st v1 v3 y5 0 2))
def f_M_addDecimal_36 (st : MS) (v1 : Int32) (v2 : Int32) (s0 : Int32) : Int32 × MS := if s0 ≤ 15 then (f_M_addDecimal_58 st v1 v2 s0 0 (((st.1 0) >>> ((4 : Int32) &&& 31)) + (v1 >>> ((4 : Int32) &&& 31)))) else (f_M_addDecimal_58 st v1 v2 s0 1 (((st.1 0) >>> ((4 : Int32) &&& 31)) + (v1 >>> ((4 : Int32) &&& 31))))
def f_M_addDecimal (st : MS) (v1 : Int32) : Int32 × MS := bS (((st.1 5) &&& 1) : Int32) (fun y1 => bS (((((st.1 0) &&& 15) + (v1 &&& 15)) + y1) : Int32) (fun y2 => if y2 ≤ 9 then (f_M_addDecimal_36 st v1 y1 y2) else (f_M_addDecimal_36 st v1 y1 (y2 + 6))))
abbrev rm_M_addDecimal : Room := { frames := 1, cells := 0, slots := 0, locals := 22 }
set_option maxHeartbeats 4000000 in
set_option maxRecDepth 100000 in
theorem k_M_addDecimal (l : Launch) (g : CG) (cs : CS) (o : Nat → Int64) (st : MS) (v1 : Int32) : KI l g y_M_addDecimal (Cond.code y_M_addDecimal c_M_addDecimal 5 (some .int) :: ALL) rm_M_addDecimal [.ref (g.model), .int v1] (wM g cs o) st (f_M_addDecimal st v1) := by
  refine KI.ofW (by decide) (Nat.le_of_ble_eq_true rfl) ?_
  intro p e s m args below meth c A Q ls Rv X he RET hC hl
  obtain ⟨hx, hb⟩ := FX_xb X
  have hl : lv_has ls 5 [(0, .ref (g.model)), (1, .int v1)] := hl
  have B184 : ∀ (H : Heap) (locs : List Loc) (ls : Array Slot) (st : MS) (v3 : Int32) (v4 : Int32) (s0 : Int32) (s1 : Int32) (hs0 : s0 = 0 ∨ s0 = 1) (hs1 : s1 = 0 ∨ s1 = 1), HC g A s (wM g cs o st) H locs → lv_has ls 5 [(3, .int v3), (4, .int v4)] → f_M_addDecimal_184 st v3 v4 s0 s1 = Rv → W p l e rm_M_addDecimal s m args below meth c H locs 0 0 Q (F0 m 184 ls [.int s0, .int s1, .ref (g.model)]) := by
    intro H locs ls st v3 v4 s0 s1 hs0 hs1 hC hl he
    unfold f_M_addDecimal_184 at he
    refine callVO (q0 := 4) (pc := 184) (As := [.int s1, .int s0]) (rest := []) X (k_M_put l g cs o st s1 s0) hC (NM_M_put_24 X rfl rfl ⟨by decide, by decide⟩) rfl rfl rfl hl.1 (Nat.le_of_ble_eq_true rfl) rfl d_M_addDecimal_184 ⟨Nat.zero_le _, Nat.zero_le _⟩ (fun st15 H locs est15 hC => ?_)
    replace he := bS_go he est15
    refine lv_iload (pc := 187) hx hb d_M_addDecimal_187 (lv_at hl 1 rfl) ?_
    refine lv_bipush (pc := 189) (v := 15) hx hb d_M_addDecimal_189 (by decide) ?_
    refine lv_iand (pc := 191) hx hb d_M_addDecimal_191 ?_
    refine lv_iconst (pc := 192) (v := 4) hx hb d_M_addDecimal_192 (by decide) ?_
    refine lv_ishl (pc := 193) hx hb d_M_addDecimal_193 ?_
    refine lv_iload_n (pc := 194) hx hb d_M_addDecimal_194 rfl (lv_at hl 0 rfl) ?_
    refine lv_bipush (pc := 195) (v := 15) hx hb d_M_addDecimal_195 (by decide) ?_
    refine lv_iand (pc := 197) hx hb d_M_addDecimal_197 ?_
    refine lv_ior (pc := 198) hx hb d_M_addDecimal_198 ?_
    exact RET (pc := 199) d_M_addDecimal_199 hC he
  have B168 : ∀ (H : Heap) (locs : List Loc) (ls : Array Slot) (st : MS) (v3 : Int32) (s0 : Int32), HC g A s (wM g cs o st) H locs → lv_has ls 5 [(0, .ref (g.model)), (3, .int v3)] → f_M_addDecimal_168 st v3 s0 = Rv → W p l e rm_M_addDecimal s m args below meth c H locs 0 0 Q (F0 m 168 ls [.int s0]) := by
    intro H locs ls st v3 s0  hC hl he
    unfold f_M_addDecimal_168 at he
    refine lv_istore (pc := 168) (nL := 5) (lv' := [(4, .int s0), (0, .ref (g.model)), (3, .int v3)]) hx hb d_M_addDecimal_168 hl (by decide) rfl (fun ls hl => ?_)
    refine lv_aload_n (pc := 170) hx hb d_M_addDecimal_170 rfl (lv_at hl 1 rfl) ?_
    refine lv_iconst (pc := 171) (v := 1) hx hb d_M_addDecimal_171 (by decide) ?_
    refine lv_iload (pc := 172) hx hb d_M_addDecimal_172 (lv_at hl 0 rfl) ?_
    refine lv_bipush (pc := 174) (v := 15) hx hb d_M_addDecimal_174 (by decide) ?_
    refine lv_icmp_le (pc := 176) (tgt := 183) hx hb d_M_addDecimal_176 (by decide) (fun h14 => ?_) (fun h14 => ?_)
    · replace he := if_go he h14
      refine lv_iconst (pc := 183) (v := 0) hx hb d_M_addDecimal_183 (by decide) ?_
      exact B184 _ _ _ st v3 s0 0 1 b0 b1 hC (lv_sub hl [2, 0] rfl) he
    replace he := if_no he h14
    refine lv_iconst (pc := 179) (v := 1) hx hb d_M_addDecimal_179 (by decide) ?_
    refine lv_goto (pc := 180) (tgt := 184) hx hb d_M_addDecimal_180 (by decide) ?_
    exact B184 _ _ _ st v3 s0 1 1 b1 b1 hC (lv_sub hl [2, 0] rfl) he
  have B148 : ∀ (H : Heap) (locs : List Loc) (ls : Array Slot) (st : MS) (v3 : Int32) (v4 : Int32) (s0 : Int32) (s1 : Int32) (hs0 : s0 = 0 ∨ s0 = 1), HC g A s (wM g cs o st) H locs → lv_has ls 5 [(0, .ref (g.model)), (3, .int v3), (4, .int v4)] → f_M_addDecimal_148 st v3 v4 s0 s1 = Rv → W p l e rm_M_addDecimal s m args below meth c H locs 0 0 Q (F0 m 148 ls [.int s0, .int s1, .ref (g.model)]) := by
    intro H locs ls st v3 v4 s0 s1 hs0 hC hl he
    unfold f_M_addDecimal_148 at he
    refine callVO (q0 := 4) (pc := 148) (As := [.int s1, .int s0]) (rest := []) X (k_M_put l g cs o st s1 s0) hC (NM_M_put_24 X rfl rfl ⟨by decide, by decide⟩) rfl rfl rfl hl.1 (Nat.le_of_ble_eq_true rfl) rfl d_M_addDecimal_148 ⟨Nat.zero_le _, Nat.zero_le _⟩ (fun st12 H locs est12 hC => ?_)
    replace he := bS_go he est12
    refine lv_iload (pc := 151) hx hb d_M_addDecimal_151 (lv_at hl 2 rfl) ?_
    refine lv_bipush (pc := 153) (v := 9) hx hb d_M_addDecimal_153 (by decide) ?_
    refine lv_icmp_le (pc := 155) (tgt := 166) hx hb d_M_addDecimal_155 (by decide) (fun h13 => ?_) (fun h13 => ?_)
    · replace he := if_go he h13
      refine lv_iload (pc := 166) hx hb d_M_addDecimal_166 (lv_at hl 2 rfl) ?_
      exact B168 _ _ _ st12 v3 v4  hC (lv_sub hl [0, 1] rfl) he
    replace he := if_no he h13
    refine lv_iload (pc := 158) hx hb d_M_addDecimal_158 (lv_at hl 2 rfl) ?_
    refine lv_bipush (pc := 160) (v := 6) hx hb d_M_addDecimal_160 (by decide) ?_
    refine lv_iadd (pc := 162) hx hb d_M_addDecimal_162 ?_
    refine lv_goto (pc := 163) (tgt := 168) hx hb d_M_addDecimal_163 (by decide) ?_
    exact B168 _ _ _ st12 v3 (v4 + 6)  hC (lv_sub hl [0, 1] rfl) he
  have B147 : ∀ (H : Heap) (locs : List Loc) (ls : Array Slot) (st : MS) (v3 : Int32) (v4 : Int32) (s0 : Int32), HC g A s (wM g cs o st) H locs → lv_has ls 5 [(0, .ref (g.model)), (3, .int v3), (4, .int v4)] → f_M_addDecimal_147 st v3 v4 s0 = Rv → W p l e rm_M_addDecimal s m args below meth c H locs 0 0 Q (F0 m 147 ls [.int s0, .ref (g.model)]) := by
    intro H locs ls st v3 v4 s0  hC hl he
    unfold f_M_addDecimal_147 at he
    refine lv_iconst (pc := 147) (v := 0) hx hb d_M_addDecimal_147 (by decide) ?_
    exact B148 _ _ _ st v3 v4 0 s0 b0 hC (lv_sub hl [0, 1, 2] rfl) he
  have B103 : ∀ (H : Heap) (locs : List Loc) (ls : Array Slot) (st : MS) (v1 : Int32) (v3 : Int32) (v4 : Int32) (s0 : Int32) (s1 : Int32) (hs0 : s0 = 0 ∨ s0 = 1), HC g A s (wM g cs o st) H locs → lv_has ls 5 [(0, .ref (g.model)), (1, .int v1), (3, .int v3), (4, .int v4)] → f_M_addDecimal_103 st v1 v3 v4 s0 s1 = Rv → W p l e rm_M_addDecimal s m args below meth c H locs 0 0 Q (F0 m 103 ls [.int s0, .int s1, .ref (g.model)]) := by
    intro H locs ls st v1 v3 v4 s0 s1 hs0 hC hl he
    unfold f_M_addDecimal_103 at he
    refine callVO (q0 := 4) (pc := 103) (As := [.int s1, .int s0]) (rest := []) X (k_M_put l g cs o st s1 s0) hC (NM_M_put_24 X rfl rfl ⟨by decide, by decide⟩) rfl rfl rfl hl.1 (Nat.le_of_ble_eq_true rfl) rfl d_M_addDecimal_103 ⟨Nat.zero_le _, Nat.zero_le _⟩ (fun st9 H locs est9 hC => ?_)
    replace he := bS_go he est9
    refine lv_aload_n (pc := 106) hx hb d_M_addDecimal_106 rfl (lv_at hl 0 rfl) ?_
    refine lv_bipush (pc := 107) (v := 64) hx hb d_M_addDecimal_107 (by decide) ?_
    refine lv_aload_n (pc := 109) hx hb d_M_addDecimal_109 rfl (lv_at hl 0 rfl) ?_
    refine GM_a (pc := 110) X hC d_M_addDecimal_110 ?_
    refine lv_sipush (pc := 113) (v := 128) hx hb d_M_addDecimal_113 (by decide) ?_
    refine lv_iand (pc := 116) hx hb d_M_addDecimal_116 ?_
    refine lv_iload_n (pc := 117) hx hb d_M_addDecimal_117 rfl (lv_at hl 1 rfl) ?_
    refine lv_sipush (pc := 118) (v := 128) hx hb d_M_addDecimal_118 (by decide) ?_
    refine lv_iand (pc := 121) hx hb d_M_addDecimal_121 ?_
    refine lv_icmp_ne (pc := 122) (tgt := 147) hx hb d_M_addDecimal_122 (by decide) (fun h10 => ?_) (fun h10 => ?_)
    · replace he := if_no he h10
      exact B147 _ _ _ st9 v3 v4 64  hC (lv_sub hl [0, 2, 3] rfl) he
    replace he := if_go he h10
    refine lv_aload_n (pc := 125) hx hb d_M_addDecimal_125 rfl (lv_at hl 0 rfl) ?_
    refine GM_a (pc := 126) X hC d_M_addDecimal_126 ?_
    refine lv_sipush (pc := 129) (v := 128) hx hb d_M_addDecimal_129 (by decide) ?_
    refine lv_iand (pc := 132) hx hb d_M_addDecimal_132 ?_
    refine lv_iconst (pc := 133) (v := 4) hx hb d_M_addDecimal_133 (by decide) ?_
    refine lv_ishr (pc := 134) hx hb d_M_addDecimal_134 ?_
    refine lv_iload (pc := 135) hx hb d_M_addDecimal_135 (lv_at hl 3 rfl) ?_
    refine lv_bipush (pc := 137) (v := 8) hx hb d_M_addDecimal_137 (by decide) ?_
    refine lv_iand (pc := 139) hx hb d_M_addDecimal_139 ?_
    refine lv_icmp_eq (pc := 140) (tgt := 147) hx hb d_M_addDecimal_140 (by decide) (fun h11 => ?_) (fun h11 => ?_)
    · replace he := if_go he h11
      exact B147 _ _ _ st9 v3 v4 64  hC (lv_sub hl [0, 2, 3] rfl) he
    replace he := if_no he h11
    refine lv_iconst (pc := 143) (v := 1) hx hb d_M_addDecimal_143 (by decide) ?_
    refine lv_goto (pc := 144) (tgt := 148) hx hb d_M_addDecimal_144 (by decide) ?_
    exact B148 _ _ _ st9 v3 v4 1 64 b1 hC (lv_sub hl [0, 2, 3] rfl) he
  have B83 : ∀ (H : Heap) (locs : List Loc) (ls : Array Slot) (st : MS) (v1 : Int32) (v3 : Int32) (v4 : Int32) (s0 : Int32) (s1 : Int32) (hs0 : s0 = 0 ∨ s0 = 1), HC g A s (wM g cs o st) H locs → lv_has ls 5 [(0, .ref (g.model)), (1, .int v1), (3, .int v3), (4, .int v4)] → f_M_addDecimal_83 st v1 v3 v4 s0 s1 = Rv → W p l e rm_M_addDecimal s m args below meth c H locs 0 0 Q (F0 m 83 ls [.int s0, .int s1, .ref (g.model)]) := by
    intro H locs ls st v1 v3 v4 s0 s1 hs0 hC hl he
    unfold f_M_addDecimal_83 at he
    refine callVO (q0 := 4) (pc := 83) (As := [.int s1, .int s0]) (rest := []) X (k_M_put l g cs o st s1 s0) hC (NM_M_put_24 X rfl rfl ⟨by decide, by decide⟩) rfl rfl rfl hl.1 (Nat.le_of_ble_eq_true rfl) rfl d_M_addDecimal_83 ⟨Nat.zero_le _, Nat.zero_le _⟩ (fun st7 H locs est7 hC => ?_)
    replace he := bS_go he est7
    refine lv_aload_n (pc := 86) hx hb d_M_addDecimal_86 rfl (lv_at hl 0 rfl) ?_
    refine lv_sipush (pc := 87) (v := 128) hx hb d_M_addDecimal_87 (by decide) ?_
    refine lv_iload (pc := 90) hx hb d_M_addDecimal_90 (lv_at hl 3 rfl) ?_
    refine lv_bipush (pc := 92) (v := 8) hx hb d_M_addDecimal_92 (by decide) ?_
    refine lv_iand (pc := 94) hx hb d_M_addDecimal_94 ?_
    refine lv_if_eq (pc := 95) (tgt := 102) hx hb d_M_addDecimal_95 (by decide) (fun h8 => ?_) (fun h8 => ?_)
    · replace he := if_go he h8
      refine lv_iconst (pc := 102) (v := 0) hx hb d_M_addDecimal_102 (by decide) ?_
      exact B103 _ _ _ st7 v1 v3 v4 0 128 b0 hC (lv_sub hl [0, 1, 2, 3] rfl) he
    replace he := if_no he h8
    refine lv_iconst (pc := 98) (v := 1) hx hb d_M_addDecimal_98 (by decide) ?_
    refine lv_goto (pc := 99) (tgt := 103) hx hb d_M_addDecimal_99 (by decide) ?_
    exact B103 _ _ _ st7 v1 v3 v4 1 128 b1 hC (lv_sub hl [0, 1, 2, 3] rfl) he
  have B58 : ∀ (H : Heap) (locs : List Loc) (ls : Array Slot) (st : MS) (v1 : Int32) (v2 : Int32) (v3 : Int32) (s0 : Int32) (s1 : Int32) (hs0 : s0 = 0 ∨ s0 = 1), HC g A s (wM g cs o st) H locs → lv_has ls 5 [(0, .ref (g.model)), (1, .int v1), (2, .int v2), (3, .int v3)] → f_M_addDecimal_58 st v1 v2 v3 s0 s1 = Rv → W p l e rm_M_addDecimal s m args below meth c H locs 0 0 Q (F0 m 58 ls [.int s0, .int s1]) := by
    intro H locs ls st v1 v2 v3 s0 s1 hs0 hC hl he
    unfold f_M_addDecimal_58 at he
    refine lv_iadd (pc := 58) hx hb d_M_addDecimal_58 ?_
    refine lv_topi (fun y5 ey5 => ?_)
    replace he := bS_go he ey5.symm
    refine lv_istore (pc := 59) (nL := 5) (lv' := [(4, .int y5), (0, .ref (g.model)), (1, .int v1), (2, .int v2), (3, .int v3)]) hx hb d_M_addDecimal_59 hl (by decide) rfl (fun ls hl => ?_)
    refine lv_aload_n (pc := 61) hx hb d_M_addDecimal_61 rfl (lv_at hl 1 rfl) ?_
    refine lv_iconst (pc := 62) (v := 2) hx hb d_M_addDecimal_62 (by decide) ?_
    refine lv_aload_n (pc := 63) hx hb d_M_addDecimal_63 rfl (lv_at hl 1 rfl) ?_
    refine GM_a (pc := 64) X hC d_M_addDecimal_64 ?_
    refine lv_iload_n (pc := 67) hx hb d_M_addDecimal_67 rfl (lv_at hl 2 rfl) ?_
    refine lv_iadd (pc := 68) hx hb d_M_addDecimal_68 ?_
    refine lv_iload_n (pc := 69) hx hb d_M_addDecimal_69 rfl (lv_at hl 3 rfl) ?_
    refine lv_iadd (pc := 70) hx hb d_M_addDecimal_70 ?_
    refine lv_sipush (pc := 71) (v := 255) hx hb d_M_addDecimal_71 (by decide) ?_
    refine lv_iand (pc := 74) hx hb d_M_addDecimal_74 ?_
    refine lv_if_ne (pc := 75) (tgt := 82) hx hb d_M_addDecimal_75 (by decide) (fun h6 => ?_) (fun h6 => ?_)
    · replace he := if_no he h6
      refine lv_iconst (pc := 82) (v := 0) hx hb d_M_addDecimal_82 (by decide) ?_
      exact B83 _ _ _ st v1 v3 y5 0 2 b0 hC (lv_sub hl [1, 2, 4, 0] rfl) he
    replace he := if_go he h6
    refine lv_iconst (pc := 78) (v := 1) hx hb d_M_addDecimal_78 (by decide) ?_
    refine lv_goto (pc := 79) (tgt := 83) hx hb d_M_addDecimal_79 (by decide) ?_
    exact B83 _ _ _ st v1 v3 y5 1 2 b1 hC (lv_sub hl [1, 2, 4, 0] rfl) he
  have B36 : ∀ (H : Heap) (locs : List Loc) (ls : Array Slot) (st : MS) (v1 : Int32) (v2 : Int32) (s0 : Int32), HC g A s (wM g cs o st) H locs → lv_has ls 5 [(0, .ref (g.model)), (1, .int v1), (2, .int v2)] → f_M_addDecimal_36 st v1 v2 s0 = Rv → W p l e rm_M_addDecimal s m args below meth c H locs 0 0 Q (F0 m 36 ls [.int s0]) := by
    intro H locs ls st v1 v2 s0  hC hl he
    unfold f_M_addDecimal_36 at he
    refine lv_istore_n (pc := 36) (nL := 5) (lv' := [(3, .int s0), (0, .ref (g.model)), (1, .int v1), (2, .int v2)]) hx hb d_M_addDecimal_36 rfl hl (by decide) rfl (fun ls hl => ?_)
    refine lv_aload_n (pc := 37) hx hb d_M_addDecimal_37 rfl (lv_at hl 1 rfl) ?_
    refine GM_a (pc := 38) X hC d_M_addDecimal_38 ?_
    refine lv_iconst (pc := 41) (v := 4) hx hb d_M_addDecimal_41 (by decide) ?_
    refine lv_ishr (pc := 42) hx hb d_M_addDecimal_42 ?_
    refine lv_iload_n (pc := 43) hx hb d_M_addDecimal_43 rfl (lv_at hl 2 rfl) ?_
    refine lv_iconst (pc := 44) (v := 4) hx hb d_M_addDecimal_44 (by decide) ?_
    refine lv_ishr (pc := 45) hx hb d_M_addDecimal_45 ?_
    refine lv_iadd (pc := 46) hx hb d_M_addDecimal_46 ?_
    refine lv_iload_n (pc := 47) hx hb d_M_addDecimal_47 rfl (lv_at hl 0 rfl) ?_
    refine lv_bipush (pc := 48) (v := 15) hx hb d_M_addDecimal_48 (by decide) ?_
    refine lv_icmp_le (pc := 50) (tgt := 57) hx hb d_M_addDecimal_50 (by decide) (fun h4 => ?_) (fun h4 => ?_)
    · replace he := if_go he h4
      refine lv_iconst (pc := 57) (v := 0) hx hb d_M_addDecimal_57 (by decide) ?_
      exact B58 _ _ _ st v1 v2 s0 0 (((st.1 0) >>> ((4 : Int32) &&& 31)) + (v1 >>> ((4 : Int32) &&& 31))) b0 hC (lv_sub hl [1, 2, 3, 0] rfl) he
    replace he := if_no he h4
    refine lv_iconst (pc := 53) (v := 1) hx hb d_M_addDecimal_53 (by decide) ?_
    refine lv_goto (pc := 54) (tgt := 58) hx hb d_M_addDecimal_54 (by decide) ?_
    exact B58 _ _ _ st v1 v2 s0 1 (((st.1 0) >>> ((4 : Int32) &&& 31)) + (v1 >>> ((4 : Int32) &&& 31))) b1 hC (lv_sub hl [1, 2, 3, 0] rfl) he
  unfold f_M_addDecimal at he
  refine lv_aload_n (pc := 0) hx hb d_M_addDecimal_0 rfl (lv_at hl 0 rfl) ?_
  refine GM_flags (pc := 1) X hC d_M_addDecimal_1 ?_
  refine lv_iconst (pc := 4) (v := 1) hx hb d_M_addDecimal_4 (by decide) ?_
  refine lv_iand (pc := 5) hx hb d_M_addDecimal_5 ?_
  refine lv_topi (fun y1 ey1 => ?_)
  replace he := bS_go he ey1.symm
  refine lv_istore_n (pc := 6) (nL := 5) (lv' := [(2, .int y1), (0, .ref (g.model)), (1, .int v1)]) hx hb d_M_addDecimal_6 rfl hl (by decide) rfl (fun ls hl => ?_)
  refine lv_aload_n (pc := 7) hx hb d_M_addDecimal_7 rfl (lv_at hl 1 rfl) ?_
  refine GM_a (pc := 8) X hC d_M_addDecimal_8 ?_
  refine lv_bipush (pc := 11) (v := 15) hx hb d_M_addDecimal_11 (by decide) ?_
  refine lv_iand (pc := 13) hx hb d_M_addDecimal_13 ?_
  refine lv_iload_n (pc := 14) hx hb d_M_addDecimal_14 rfl (lv_at hl 2 rfl) ?_
  refine lv_bipush (pc := 15) (v := 15) hx hb d_M_addDecimal_15 (by decide) ?_
  refine lv_iand (pc := 17) hx hb d_M_addDecimal_17 ?_
  refine lv_iadd (pc := 18) hx hb d_M_addDecimal_18 ?_
  refine lv_iload_n (pc := 19) hx hb d_M_addDecimal_19 rfl (lv_at hl 0 rfl) ?_
  refine lv_iadd (pc := 20) hx hb d_M_addDecimal_20 ?_
  refine lv_topi (fun y2 ey2 => ?_)
  replace he := bS_go he ey2.symm
  refine lv_istore_n (pc := 21) (nL := 5) (lv' := [(3, .int y2), (2, .int y1), (0, .ref (g.model)), (1, .int v1)]) hx hb d_M_addDecimal_21 rfl hl (by decide) rfl (fun ls hl => ?_)
  refine lv_iload_n (pc := 22) hx hb d_M_addDecimal_22 rfl (lv_at hl 0 rfl) ?_
  refine lv_bipush (pc := 23) (v := 9) hx hb d_M_addDecimal_23 (by decide) ?_
  refine lv_icmp_le (pc := 25) (tgt := 35) hx hb d_M_addDecimal_25 (by decide) (fun h3 => ?_) (fun h3 => ?_)
  · replace he := if_go he h3
    refine lv_iload_n (pc := 35) hx hb d_M_addDecimal_35 rfl (lv_at hl 0 rfl) ?_
    exact B36 _ _ _ st v1 y1 y2  hC (lv_sub hl [2, 3, 1] rfl) he
  replace he := if_no he h3
  refine lv_iload_n (pc := 28) hx hb d_M_addDecimal_28 rfl (lv_at hl 0 rfl) ?_
  refine lv_bipush (pc := 29) (v := 6) hx hb d_M_addDecimal_29 (by decide) ?_
  refine lv_iadd (pc := 31) hx hb d_M_addDecimal_31 ?_
  refine lv_goto (pc := 32) (tgt := 36) hx hb d_M_addDecimal_32 (by decide) ?_
  exact B36 _ _ _ st v1 y1 (y2 + 6)  hC (lv_sub hl [2, 3, 1] rfl) he
def f_M_add_71 (st : MS) (v2 : Int32) (s0 : Int32) (s1 : Int32) : Int32 × MS := bS (f_M_put st s1 s0) (fun st6 => bP (f_M_mark st6 (v2 &&& 255)) (fun r8 st7 => (r8, st7)))
def f_M_add_70 (st : MS) (v2 : Int32) (s0 : Int32) : Int32 × MS := f_M_add_71 st v2 0 s0
def f_M_add_28 (st : MS) (v1 : Int32) (v2 : Int32) (s0 : Int32) (s1 : Int32) : Int32 × MS := bS (f_M_put st s1 s0) (fun st3 => if ((st3.1 0) &&& 128) = (v1 &&& 128) then (if ((st3.1 0) &&& 128) = (v2 &&& 128) then (f_M_add_70 st3 v2 64) else (f_M_add_71 st3 v2 1 64)) else (f_M_add_70 st3 v2 64))
def f_M_add (st : MS) (v1 : Int32) : Int32 × MS := bS ((((st.1 0) + v1) + ((st.1 5) &&& 1)) : Int32) (fun y1 => if y1 ≤ 255 then (f_M_add_28 st v1 y1 0 1) else (f_M_add_28 st v1 y1 1 1))
abbrev rm_M_add : Room := { frames := 2, cells := 0, slots := 0, locals := 43 }
set_option maxHeartbeats 4000000 in
set_option maxRecDepth 100000 in
theorem k_M_add (l : Launch) (g : CG) (cs : CS) (o : Nat → Int64) (st : MS) (v1 : Int32) : KI l g y_M_add (Cond.code y_M_add c_M_add 3 (some .int) :: ALL) rm_M_add [.ref (g.model), .int v1] (wM g cs o) st (f_M_add st v1) := by
  refine KI.ofW (by decide) (Nat.le_of_ble_eq_true rfl) ?_
  intro p e s m args below meth c A Q ls Rv X he RET hC hl
  obtain ⟨hx, hb⟩ := FX_xb X
  have hl : lv_has ls 3 [(0, .ref (g.model)), (1, .int v1)] := hl
  have B71 : ∀ (H : Heap) (locs : List Loc) (ls : Array Slot) (st : MS) (v2 : Int32) (s0 : Int32) (s1 : Int32) (hs0 : s0 = 0 ∨ s0 = 1), HC g A s (wM g cs o st) H locs → lv_has ls 3 [(0, .ref (g.model)), (2, .int v2)] → f_M_add_71 st v2 s0 s1 = Rv → W p l e rm_M_add s m args below meth c H locs 0 0 Q (F0 m 71 ls [.int s0, .int s1, .ref (g.model)]) := by
    intro H locs ls st v2 s0 s1 hs0 hC hl he
    unfold f_M_add_71 at he
    refine callVO (q0 := 4) (pc := 71) (As := [.int s1, .int s0]) (rest := []) X (k_M_put l g cs o st s1 s0) hC (NM_M_put_24 X rfl rfl ⟨by decide, by decide⟩) rfl rfl rfl hl.1 (Nat.le_of_ble_eq_true rfl) rfl d_M_add_71 ⟨Nat.zero_le _, Nat.zero_le _⟩ (fun st6 H locs est6 hC => ?_)
    replace he := bS_go he est6
    refine lv_aload_n (pc := 74) hx hb d_M_add_74 rfl (lv_at hl 0 rfl) ?_
    refine lv_iload_n (pc := 75) hx hb d_M_add_75 rfl (lv_at hl 1 rfl) ?_
    refine lv_sipush (pc := 76) (v := 255) hx hb d_M_add_76 (by decide) ?_
    refine lv_iand (pc := 79) hx hb d_M_add_79 ?_
    refine callIO (q0 := 4) (pc := 80) (As := [.int (v2 &&& 255)]) (rest := []) X (k_M_mark l g cs o st6 (v2 &&& 255)) hC (NM_M_mark_210 X rfl rfl ⟨by decide, by decide⟩) rfl rfl rfl hl.1 (Nat.le_of_ble_eq_true rfl) rfl d_M_add_80 ⟨Nat.zero_le _, Nat.zero_le _⟩ (fun r8 st7 H locs est7 hC => ?_)
    replace he := bP_go he est7
    exact RET (pc := 83) d_M_add_83 hC he
  have B70 : ∀ (H : Heap) (locs : List Loc) (ls : Array Slot) (st : MS) (v2 : Int32) (s0 : Int32), HC g A s (wM g cs o st) H locs → lv_has ls 3 [(0, .ref (g.model)), (2, .int v2)] → f_M_add_70 st v2 s0 = Rv → W p l e rm_M_add s m args below meth c H locs 0 0 Q (F0 m 70 ls [.int s0, .ref (g.model)]) := by
    intro H locs ls st v2 s0  hC hl he
    unfold f_M_add_70 at he
    refine lv_iconst (pc := 70) (v := 0) hx hb d_M_add_70 (by decide) ?_
    exact B71 _ _ _ st v2 0 s0 b0 hC (lv_sub hl [0, 1] rfl) he
  have B28 : ∀ (H : Heap) (locs : List Loc) (ls : Array Slot) (st : MS) (v1 : Int32) (v2 : Int32) (s0 : Int32) (s1 : Int32) (hs0 : s0 = 0 ∨ s0 = 1) (hs1 : s1 = 0 ∨ s1 = 1), HC g A s (wM g cs o st) H locs → lv_has ls 3 [(0, .ref (g.model)), (1, .int v1), (2, .int v2)] → f_M_add_28 st v1 v2 s0 s1 = Rv → W p l e rm_M_add s m args below meth c H locs 0 0 Q (F0 m 28 ls [.int s0, .int s1, .ref (g.model)]) := by
    intro H locs ls st v1 v2 s0 s1 hs0 hs1 hC hl he
    unfold f_M_add_28 at he
    refine callVO (q0 := 4) (pc := 28) (As := [.int s1, .int s0]) (rest := []) X (k_M_put l g cs o st s1 s0) hC (NM_M_put_24 X rfl rfl ⟨by decide, by decide⟩) rfl rfl rfl hl.1 (Nat.le_of_ble_eq_true rfl) rfl d_M_add_28 ⟨Nat.zero_le _, Nat.zero_le _⟩ (fun st3 H locs est3 hC => ?_)
    replace he := bS_go he est3
    refine lv_aload_n (pc := 31) hx hb d_M_add_31 rfl (lv_at hl 0 rfl) ?_
    refine lv_bipush (pc := 32) (v := 64) hx hb d_M_add_32 (by decide) ?_
    refine lv_aload_n (pc := 34) hx hb d_M_add_34 rfl (lv_at hl 0 rfl) ?_
    refine GM_a (pc := 35) X hC d_M_add_35 ?_
    refine lv_sipush (pc := 38) (v := 128) hx hb d_M_add_38 (by decide) ?_
    refine lv_iand (pc := 41) hx hb d_M_add_41 ?_
    refine lv_iload_n (pc := 42) hx hb d_M_add_42 rfl (lv_at hl 1 rfl) ?_
    refine lv_sipush (pc := 43) (v := 128) hx hb d_M_add_43 (by decide) ?_
    refine lv_iand (pc := 46) hx hb d_M_add_46 ?_
    refine lv_icmp_ne (pc := 47) (tgt := 70) hx hb d_M_add_47 (by decide) (fun h4 => ?_) (fun h4 => ?_)
    · replace he := if_no he h4
      exact B70 _ _ _ st3 v2 64  hC (lv_sub hl [0, 2] rfl) he
    replace he := if_go he h4
    refine lv_aload_n (pc := 50) hx hb d_M_add_50 rfl (lv_at hl 0 rfl) ?_
    refine GM_a (pc := 51) X hC d_M_add_51 ?_
    refine lv_sipush (pc := 54) (v := 128) hx hb d_M_add_54 (by decide) ?_
    refine lv_iand (pc := 57) hx hb d_M_add_57 ?_
    refine lv_iload_n (pc := 58) hx hb d_M_add_58 rfl (lv_at hl 2 rfl) ?_
    refine lv_sipush (pc := 59) (v := 128) hx hb d_M_add_59 (by decide) ?_
    refine lv_iand (pc := 62) hx hb d_M_add_62 ?_
    refine lv_icmp_eq (pc := 63) (tgt := 70) hx hb d_M_add_63 (by decide) (fun h5 => ?_) (fun h5 => ?_)
    · replace he := if_go he h5
      exact B70 _ _ _ st3 v2 64  hC (lv_sub hl [0, 2] rfl) he
    replace he := if_no he h5
    refine lv_iconst (pc := 66) (v := 1) hx hb d_M_add_66 (by decide) ?_
    refine lv_goto (pc := 67) (tgt := 71) hx hb d_M_add_67 (by decide) ?_
    exact B71 _ _ _ st3 v2 1 64 b1 hC (lv_sub hl [0, 2] rfl) he
  unfold f_M_add at he
  refine lv_aload_n (pc := 0) hx hb d_M_add_0 rfl (lv_at hl 0 rfl) ?_
  refine GM_a (pc := 1) X hC d_M_add_1 ?_
  refine lv_iload_n (pc := 4) hx hb d_M_add_4 rfl (lv_at hl 1 rfl) ?_
  refine lv_iadd (pc := 5) hx hb d_M_add_5 ?_
  refine lv_aload_n (pc := 6) hx hb d_M_add_6 rfl (lv_at hl 0 rfl) ?_
  refine GM_flags (pc := 7) X hC d_M_add_7 ?_
  refine lv_iconst (pc := 10) (v := 1) hx hb d_M_add_10 (by decide) ?_
  refine lv_iand (pc := 11) hx hb d_M_add_11 ?_
  refine lv_iadd (pc := 12) hx hb d_M_add_12 ?_
  refine lv_topi (fun y1 ey1 => ?_)
  replace he := bS_go he ey1.symm
  refine lv_istore_n (pc := 13) (nL := 3) (lv' := [(2, .int y1), (0, .ref (g.model)), (1, .int v1)]) hx hb d_M_add_13 rfl hl (by decide) rfl (fun ls hl => ?_)
  refine lv_aload_n (pc := 14) hx hb d_M_add_14 rfl (lv_at hl 1 rfl) ?_
  refine lv_iconst (pc := 15) (v := 1) hx hb d_M_add_15 (by decide) ?_
  refine lv_iload_n (pc := 16) hx hb d_M_add_16 rfl (lv_at hl 0 rfl) ?_
  refine lv_sipush (pc := 17) (v := 255) hx hb d_M_add_17 (by decide) ?_
  refine lv_icmp_le (pc := 20) (tgt := 27) hx hb d_M_add_20 (by decide) (fun h2 => ?_) (fun h2 => ?_)
  · replace he := if_go he h2
    refine lv_iconst (pc := 27) (v := 0) hx hb d_M_add_27 (by decide) ?_
    exact B28 _ _ _ st v1 y1 0 1 b0 b1 hC (lv_sub hl [1, 2, 0] rfl) he
  replace he := if_no he h2
  refine lv_iconst (pc := 23) (v := 1) hx hb d_M_add_23 (by decide) ?_
  refine lv_goto (pc := 24) (tgt := 28) hx hb d_M_add_24 (by decide) ?_
  exact B28 _ _ _ st v1 y1 1 1 b1 b1 hC (lv_sub hl [1, 2, 0] rfl) he
def f_M_subtract_113 (st : MS) (s0 : Int32) : Int32 × MS := (s0, st)
def f_M_subtract_74 (st : MS) (v1 : Int32) (v3 : Int32) (s0 : Int32) : Int32 × MS := bP (f_M_add st (255 - v1)) (fun r8 st7 => bP (f_M_is st7 8) (fun r10 st9 => if r10 = 0 then (f_M_subtract_113 st9 r8) else (f_M_subtract_113 st9 (((s0 &&& 15) <<< ((4 : Int32) &&& 31)) ||| (v3 &&& 15)))))
def f_M_subtract_58 (st : MS) (v1 : Int32) (v4 : Int32) (s0 : Int32) : Int32 × MS := if 0 ≤ v4 then (f_M_subtract_74 st v1 s0 v4) else (f_M_subtract_74 st v1 s0 (v4 - 6))
def f_M_subtract_43 (st : MS) (v1 : Int32) (v3 : Int32) (s0 : Int32) (s1 : Int32) : Int32 × MS := bS ((s1 - s0) : Int32) (fun y4 => if 0 ≤ v3 then (f_M_subtract_58 st v1 y4 v3) else (f_M_subtract_58 st v1 y4 (v3 - 6)))
def f_M_subtract (st : MS) (v1 : Int32) : Int32 × MS := bS ((1 - ((st.1 5) &&& 1)) : Int32) (fun y1 => bS (((((st.1 0) &&& 15) - (v1 &&& 15)) - y1) : Int32) (fun y2 => if 0 ≤ y2 then (f_M_subtract_43 st v1 y2 0 (((st.1 0) >>> ((4 : Int32) &&& 31)) - (v1 >>> ((4 : Int32) &&& 31)))) else (f_M_subtract_43 st v1 y2 1 (((st.1 0) >>> ((4 : Int32) &&& 31)) - (v1 >>> ((4 : Int32) &&& 31))))))
abbrev rm_M_subtract : Room := { frames := 3, cells := 0, slots := 0, locals := 65 }
set_option maxHeartbeats 4000000 in
set_option maxRecDepth 100000 in
theorem k_M_subtract (l : Launch) (g : CG) (cs : CS) (o : Nat → Int64) (st : MS) (v1 : Int32) : KI l g y_M_subtract (Cond.code y_M_subtract c_M_subtract 6 (some .int) :: ALL) rm_M_subtract [.ref (g.model), .int v1] (wM g cs o) st (f_M_subtract st v1) := by
  refine KI.ofW (by decide) (Nat.le_of_ble_eq_true rfl) ?_
  intro p e s m args below meth c A Q ls Rv X he RET hC hl
  obtain ⟨hx, hb⟩ := FX_xb X
  have hl : lv_has ls 6 [(0, .ref (g.model)), (1, .int v1)] := hl
  have B113 : ∀ (H : Heap) (locs : List Loc) (ls : Array Slot) (st : MS) (s0 : Int32), HC g A s (wM g cs o st) H locs → lv_has ls 6 [] → f_M_subtract_113 st s0 = Rv → W p l e rm_M_subtract s m args below meth c H locs 0 0 Q (F0 m 113 ls [.int s0]) := by
    intro H locs ls st s0  hC hl he
    unfold f_M_subtract_113 at he
    exact RET (pc := 113) d_M_subtract_113 hC he
  have B74 : ∀ (H : Heap) (locs : List Loc) (ls : Array Slot) (st : MS) (v1 : Int32) (v3 : Int32) (s0 : Int32), HC g A s (wM g cs o st) H locs → lv_has ls 6 [(0, .ref (g.model)), (1, .int v1), (3, .int v3)] → f_M_subtract_74 st v1 v3 s0 = Rv → W p l e rm_M_subtract s m args below meth c H locs 0 0 Q (F0 m 74 ls [.int s0]) := by
    intro H locs ls st v1 v3 s0  hC hl he
    unfold f_M_subtract_74 at he
    refine lv_istore (pc := 74) (nL := 6) (lv' := [(4, .int s0), (0, .ref (g.model)), (1, .int v1), (3, .int v3)]) hx hb d_M_subtract_74 hl (by decide) rfl (fun ls hl => ?_)
    refine lv_aload_n (pc := 76) hx hb d_M_subtract_76 rfl (lv_at hl 1 rfl) ?_
    refine lv_sipush (pc := 77) (v := 255) hx hb d_M_subtract_77 (by decide) ?_
    refine lv_iload_n (pc := 80) hx hb d_M_subtract_80 rfl (lv_at hl 2 rfl) ?_
    refine lv_isub (pc := 81) hx hb d_M_subtract_81 ?_
    refine callIO (q0 := 4) (pc := 82) (As := [.int (255 - v1)]) (rest := []) X (k_M_add l g cs o st (255 - v1)) hC (NM_M_add_226 X rfl rfl ⟨by decide, by decide⟩) rfl rfl rfl hl.1 (Nat.le_of_ble_eq_true rfl) rfl d_M_subtract_82 ⟨Nat.zero_le _, Nat.zero_le _⟩ (fun r8 st7 H locs est7 hC => ?_)
    replace he := bP_go he est7
    refine lv_istore (pc := 85) (nL := 6) (lv' := [(5, .int r8), (4, .int s0), (0, .ref (g.model)), (1, .int v1), (3, .int v3)]) hx hb d_M_subtract_85 hl (by decide) rfl (fun ls hl => ?_)
    refine lv_aload_n (pc := 87) hx hb d_M_subtract_87 rfl (lv_at hl 2 rfl) ?_
    refine lv_bipush (pc := 88) (v := 8) hx hb d_M_subtract_88 (by decide) ?_
    refine callZO (q0 := 4) (pc := 90) (As := [.int 8]) (rest := []) X (k_M_is l g cs o st7 8) hC (NM_M_is_82 X rfl rfl ⟨by decide, by decide⟩) rfl rfl rfl hl.1 (Nat.le_of_ble_eq_true rfl) rfl d_M_subtract_90 ⟨Nat.zero_le _, Nat.zero_le _⟩ (fun r10 st9 H locs est9 br10 hC => ?_)
    replace he := bP_go he est9
    refine lv_if_eq (pc := 93) (tgt := 111) hx hb d_M_subtract_93 (by decide) (fun h11 => ?_) (fun h11 => ?_)
    · replace he := if_go he h11
      refine lv_iload (pc := 111) hx hb d_M_subtract_111 (lv_at hl 0 rfl) ?_
      exact B113 _ _ _ st9 r8  hC (lv_sub hl [] rfl) he
    replace he := if_no he h11
    refine lv_iload (pc := 96) hx hb d_M_subtract_96 (lv_at hl 1 rfl) ?_
    refine lv_bipush (pc := 98) (v := 15) hx hb d_M_subtract_98 (by decide) ?_
    refine lv_iand (pc := 100) hx hb d_M_subtract_100 ?_
    refine lv_iconst (pc := 101) (v := 4) hx hb d_M_subtract_101 (by decide) ?_
    refine lv_ishl (pc := 102) hx hb d_M_subtract_102 ?_
    refine lv_iload_n (pc := 103) hx hb d_M_subtract_103 rfl (lv_at hl 4 rfl) ?_
    refine lv_bipush (pc := 104) (v := 15) hx hb d_M_subtract_104 (by decide) ?_
    refine lv_iand (pc := 106) hx hb d_M_subtract_106 ?_
    refine lv_ior (pc := 107) hx hb d_M_subtract_107 ?_
    refine lv_goto (pc := 108) (tgt := 113) hx hb d_M_subtract_108 (by decide) ?_
    exact B113 _ _ _ st9 (((s0 &&& 15) <<< ((4 : Int32) &&& 31)) ||| (v3 &&& 15))  hC (lv_sub hl [] rfl) he
  have B58 : ∀ (H : Heap) (locs : List Loc) (ls : Array Slot) (st : MS) (v1 : Int32) (v4 : Int32) (s0 : Int32), HC g A s (wM g cs o st) H locs → lv_has ls 6 [(0, .ref (g.model)), (1, .int v1), (4, .int v4)] → f_M_subtract_58 st v1 v4 s0 = Rv → W p l e rm_M_subtract s m args below meth c H locs 0 0 Q (F0 m 58 ls [.int s0]) := by
    intro H locs ls st v1 v4 s0  hC hl he
    unfold f_M_subtract_58 at he
    refine lv_istore_n (pc := 58) (nL := 6) (lv' := [(3, .int s0), (0, .ref (g.model)), (1, .int v1), (4, .int v4)]) hx hb d_M_subtract_58 rfl hl (by decide) rfl (fun ls hl => ?_)
    refine lv_iload (pc := 59) hx hb d_M_subtract_59 (lv_at hl 3 rfl) ?_
    refine lv_if_ge (pc := 61) (tgt := 72) hx hb d_M_subtract_61 (by decide) (fun h6 => ?_) (fun h6 => ?_)
    · replace he := if_go he h6
      refine lv_iload (pc := 72) hx hb d_M_subtract_72 (lv_at hl 3 rfl) ?_
      exact B74 _ _ _ st v1 s0 v4  hC (lv_sub hl [1, 2, 0] rfl) he
    replace he := if_no he h6
    refine lv_iload (pc := 64) hx hb d_M_subtract_64 (lv_at hl 3 rfl) ?_
    refine lv_bipush (pc := 66) (v := 6) hx hb d_M_subtract_66 (by decide) ?_
    refine lv_isub (pc := 68) hx hb d_M_subtract_68 ?_
    refine lv_goto (pc := 69) (tgt := 74) hx hb d_M_subtract_69 (by decide) ?_
    exact B74 _ _ _ st v1 s0 (v4 - 6)  hC (lv_sub hl [1, 2, 0] rfl) he
  have B43 : ∀ (H : Heap) (locs : List Loc) (ls : Array Slot) (st : MS) (v1 : Int32) (v3 : Int32) (s0 : Int32) (s1 : Int32) (hs0 : s0 = 0 ∨ s0 = 1), HC g A s (wM g cs o st) H locs → lv_has ls 6 [(0, .ref (g.model)), (1, .int v1), (3, .int v3)] → f_M_subtract_43 st v1 v3 s0 s1 = Rv → W p l e rm_M_subtract s m args below meth c H locs 0 0 Q (F0 m 43 ls [.int s0, .int s1]) := by
    intro H locs ls st v1 v3 s0 s1 hs0 hC hl he
    unfold f_M_subtract_43 at he
    refine lv_isub (pc := 43) hx hb d_M_subtract_43 ?_
    refine lv_topi (fun y4 ey4 => ?_)
    replace he := bS_go he ey4.symm
    refine lv_istore (pc := 44) (nL := 6) (lv' := [(4, .int y4), (0, .ref (g.model)), (1, .int v1), (3, .int v3)]) hx hb d_M_subtract_44 hl (by decide) rfl (fun ls hl => ?_)
    refine lv_iload_n (pc := 46) hx hb d_M_subtract_46 rfl (lv_at hl 3 rfl) ?_
    refine lv_if_ge (pc := 47) (tgt := 57) hx hb d_M_subtract_47 (by decide) (fun h5 => ?_) (fun h5 => ?_)
    · replace he := if_go he h5
      refine lv_iload_n (pc := 57) hx hb d_M_subtract_57 rfl (lv_at hl 3 rfl) ?_
      exact B58 _ _ _ st v1 y4 v3  hC (lv_sub hl [1, 2, 0] rfl) he
    replace he := if_no he h5
    refine lv_iload_n (pc := 50) hx hb d_M_subtract_50 rfl (lv_at hl 3 rfl) ?_
    refine lv_bipush (pc := 51) (v := 6) hx hb d_M_subtract_51 (by decide) ?_
    refine lv_isub (pc := 53) hx hb d_M_subtract_53 ?_
    refine lv_goto (pc := 54) (tgt := 58) hx hb d_M_subtract_54 (by decide) ?_
    exact B58 _ _ _ st v1 y4 (v3 - 6)  hC (lv_sub hl [1, 2, 0] rfl) he
  unfold f_M_subtract at he
  refine lv_iconst (pc := 0) (v := 1) hx hb d_M_subtract_0 (by decide) ?_
  refine lv_aload_n (pc := 1) hx hb d_M_subtract_1 rfl (lv_at hl 0 rfl) ?_
  refine GM_flags (pc := 2) X hC d_M_subtract_2 ?_
  refine lv_iconst (pc := 5) (v := 1) hx hb d_M_subtract_5 (by decide) ?_
  refine lv_iand (pc := 6) hx hb d_M_subtract_6 ?_
  refine lv_isub (pc := 7) hx hb d_M_subtract_7 ?_
  refine lv_topi (fun y1 ey1 => ?_)
  replace he := bS_go he ey1.symm
  refine lv_istore_n (pc := 8) (nL := 6) (lv' := [(2, .int y1), (0, .ref (g.model)), (1, .int v1)]) hx hb d_M_subtract_8 rfl hl (by decide) rfl (fun ls hl => ?_)
  refine lv_aload_n (pc := 9) hx hb d_M_subtract_9 rfl (lv_at hl 1 rfl) ?_
  refine GM_a (pc := 10) X hC d_M_subtract_10 ?_
  refine lv_bipush (pc := 13) (v := 15) hx hb d_M_subtract_13 (by decide) ?_
  refine lv_iand (pc := 15) hx hb d_M_subtract_15 ?_
  refine lv_iload_n (pc := 16) hx hb d_M_subtract_16 rfl (lv_at hl 2 rfl) ?_
  refine lv_bipush (pc := 17) (v := 15) hx hb d_M_subtract_17 (by decide) ?_
  refine lv_iand (pc := 19) hx hb d_M_subtract_19 ?_
  refine lv_isub (pc := 20) hx hb d_M_subtract_20 ?_
  refine lv_iload_n (pc := 21) hx hb d_M_subtract_21 rfl (lv_at hl 0 rfl) ?_
  refine lv_isub (pc := 22) hx hb d_M_subtract_22 ?_
  refine lv_topi (fun y2 ey2 => ?_)
  replace he := bS_go he ey2.symm
  refine lv_istore_n (pc := 23) (nL := 6) (lv' := [(3, .int y2), (2, .int y1), (0, .ref (g.model)), (1, .int v1)]) hx hb d_M_subtract_23 rfl hl (by decide) rfl (fun ls hl => ?_)
  refine lv_aload_n (pc := 24) hx hb d_M_subtract_24 rfl (lv_at hl 2 rfl) ?_
  refine GM_a (pc := 25) X hC d_M_subtract_25 ?_
  refine lv_iconst (pc := 28) (v := 4) hx hb d_M_subtract_28 (by decide) ?_
  refine lv_ishr (pc := 29) hx hb d_M_subtract_29 ?_
  refine lv_iload_n (pc := 30) hx hb d_M_subtract_30 rfl (lv_at hl 3 rfl) ?_
  refine lv_iconst (pc := 31) (v := 4) hx hb d_M_subtract_31 (by decide) ?_
  refine lv_ishr (pc := 32) hx hb d_M_subtract_32 ?_
  refine lv_isub (pc := 33) hx hb d_M_subtract_33 ?_
  refine lv_iload_n (pc := 34) hx hb d_M_subtract_34 rfl (lv_at hl 0 rfl) ?_
  refine lv_if_ge (pc := 35) (tgt := 42) hx hb d_M_subtract_35 (by decide) (fun h3 => ?_) (fun h3 => ?_)
  · replace he := if_go he h3
    refine lv_iconst (pc := 42) (v := 0) hx hb d_M_subtract_42 (by decide) ?_
    exact B43 _ _ _ st v1 y2 0 (((st.1 0) >>> ((4 : Int32) &&& 31)) - (v1 >>> ((4 : Int32) &&& 31))) b0 hC (lv_sub hl [2, 3, 0] rfl) he
  replace he := if_no he h3
  refine lv_iconst (pc := 38) (v := 1) hx hb d_M_subtract_38 (by decide) ?_
  refine lv_goto (pc := 39) (tgt := 43) hx hb d_M_subtract_39 (by decide) ?_
  exact B43 _ _ _ st v1 y2 1 (((st.1 0) >>> ((4 : Int32) &&& 31)) - (v1 >>> ((4 : Int32) &&& 31))) b1 hC (lv_sub hl [2, 3, 0] rfl) he
def f_M_use_217 (st : MS)  : MS := st
def f_M_use_208 (st : MS) (v1 : Int32) : MS := bP (f_M_mark st v1) (fun r41 st40 => bS (tV st40 2 r41) (fun st42 => f_M_use_217 st42 ))
def f_M_use_175 (st : MS) (v1 : Int32) (s0 : Int32) (s1 : Int32) : MS := bS (f_M_put st s1 s0) (fun st37 => bP (f_M_mark st37 (((st37.1 0) - v1) &&& 255)) (fun r39 st38 => f_M_use_217 st38 ))
def f_M_use_91 (st : MS) (s0 : Int32) : MS := bS (tV st 0 s0) (fun st36 => f_M_use_217 st36 )
def f_M_use (st : MS) (v1 : Int32) : MS := if (st.1 14) = 0 then (bP (f_M_mark st v1) (fun r3 st2 => bS (tV st2 0 r3) (fun st4 => f_M_use_217 st4 ))) else (if (st.1 14) = 1 then (f_M_use_208 st v1) else (if (st.1 14) = 2 then (bP (f_M_is st 8) (fun r8 st7 => if r8 = 0 then (bP (f_M_add st7 v1) (fun r11 st10 => f_M_use_91 st10 r11)) else (bP (f_M_addDecimal st7 v1) (fun r13 st12 => f_M_use_91 st12 r13)))) else (if (st.1 14) = 3 then (bP (f_M_subtract st v1) (fun r16 st15 => bS (tV st15 0 r16) (fun st17 => f_M_use_217 st17 ))) else (if (st.1 14) = 4 then (bP (f_M_mark st ((st.1 0) &&& v1)) (fun r20 st19 => bS (tV st19 0 r20) (fun st21 => f_M_use_217 st21 ))) else (if (st.1 14) = 5 then (bP (f_M_mark st ((st.1 0) ||| v1)) (fun r24 st23 => bS (tV st23 0 r24) (fun st25 => f_M_use_217 st25 ))) else (if (st.1 14) = 6 then (bP (f_M_mark st ((st.1 0) ^^^ v1)) (fun r28 st27 => bS (tV st27 0 r28) (fun st29 => f_M_use_217 st29 ))) else (if (st.1 14) = 7 then (if (st.1 0) < v1 then (f_M_use_175 st v1 0 1) else (f_M_use_175 st v1 1 1)) else (if (st.1 14) = 8 then (bP (f_M_mark st v1) (fun r34 st33 => bS (tV st33 1 r34) (fun st35 => f_M_use_217 st35 ))) else (f_M_use_208 st v1)))))))))
abbrev rm_M_use : Room := { frames := 4, cells := 0, slots := 0, locals := 90 }
set_option maxHeartbeats 4000000 in
set_option maxRecDepth 100000 in
theorem k_M_use (l : Launch) (g : CG) (cs : CS) (o : Nat → Int64) (st : MS) (v1 : Int32) : KV l g y_M_use (Cond.code y_M_use c_M_use 3 none :: ALL) rm_M_use [.ref (g.model), .int v1] (wM g cs o) st (f_M_use st v1) := by
  refine KV.ofW (by decide) (Nat.le_of_ble_eq_true rfl) ?_
  intro p e s m args below meth c A Q ls Rv X he RET hC hl
  obtain ⟨hx, hb⟩ := FX_xb X
  have hl : lv_has ls 3 [(0, .ref (g.model)), (1, .int v1)] := hl
  have B217 : ∀ (H : Heap) (locs : List Loc) (ls : Array Slot) (st : MS) , HC g A s (wM g cs o st) H locs → lv_has ls 3 [] → f_M_use_217 st  = Rv → W p l e rm_M_use s m args below meth c H locs 0 0 Q (F0 m 217 ls []) := by
    intro H locs ls st   hC hl he
    unfold f_M_use_217 at he
    exact RET (pc := 217) d_M_use_217 hC he
  have B208 : ∀ (H : Heap) (locs : List Loc) (ls : Array Slot) (st : MS) (v1 : Int32), HC g A s (wM g cs o st) H locs → lv_has ls 3 [(0, .ref (g.model)), (1, .int v1)] → f_M_use_208 st v1 = Rv → W p l e rm_M_use s m args below meth c H locs 0 0 Q (F0 m 208 ls []) := by
    intro H locs ls st v1  hC hl he
    unfold f_M_use_208 at he
    refine lv_aload_n (pc := 208) hx hb d_M_use_208 rfl (lv_at hl 0 rfl) ?_
    refine lv_aload_n (pc := 209) hx hb d_M_use_209 rfl (lv_at hl 0 rfl) ?_
    refine lv_iload_n (pc := 210) hx hb d_M_use_210 rfl (lv_at hl 1 rfl) ?_
    refine callIO (q0 := 4) (pc := 211) (As := [.int v1]) (rest := [.ref (g.model)]) X (k_M_mark l g cs o st v1) hC (NM_M_mark_210 X rfl rfl ⟨by decide, by decide⟩) rfl rfl rfl hl.1 (Nat.le_of_ble_eq_true rfl) rfl d_M_use_211 ⟨Nat.zero_le _, Nat.zero_le _⟩ (fun r41 st40 H locs est40 hC => ?_)
    replace he := bP_go he est40
    refine PM_y (pc := 214) X hC d_M_use_214 (fun st42 H locs est42 hC => ?_)
    replace he := bS_go he est42
    exact B217 _ _ _ st42   hC (lv_sub hl [] rfl) he
  have B175 : ∀ (H : Heap) (locs : List Loc) (ls : Array Slot) (st : MS) (v1 : Int32) (s0 : Int32) (s1 : Int32) (hs0 : s0 = 0 ∨ s0 = 1) (hs1 : s1 = 0 ∨ s1 = 1), HC g A s (wM g cs o st) H locs → lv_has ls 3 [(0, .ref (g.model)), (1, .int v1)] → f_M_use_175 st v1 s0 s1 = Rv → W p l e rm_M_use s m args below meth c H locs 0 0 Q (F0 m 175 ls [.int s0, .int s1, .ref (g.model)]) := by
    intro H locs ls st v1 s0 s1 hs0 hs1 hC hl he
    unfold f_M_use_175 at he
    refine callVO (q0 := 4) (pc := 175) (As := [.int s1, .int s0]) (rest := []) X (k_M_put l g cs o st s1 s0) hC (NM_M_put_24 X rfl rfl ⟨by decide, by decide⟩) rfl rfl rfl hl.1 (Nat.le_of_ble_eq_true rfl) rfl d_M_use_175 ⟨Nat.zero_le _, Nat.zero_le _⟩ (fun st37 H locs est37 hC => ?_)
    replace he := bS_go he est37
    refine lv_aload_n (pc := 178) hx hb d_M_use_178 rfl (lv_at hl 0 rfl) ?_
    refine lv_aload_n (pc := 179) hx hb d_M_use_179 rfl (lv_at hl 0 rfl) ?_
    refine GM_a (pc := 180) X hC d_M_use_180 ?_
    refine lv_iload_n (pc := 183) hx hb d_M_use_183 rfl (lv_at hl 1 rfl) ?_
    refine lv_isub (pc := 184) hx hb d_M_use_184 ?_
    refine lv_sipush (pc := 185) (v := 255) hx hb d_M_use_185 (by decide) ?_
    refine lv_iand (pc := 188) hx hb d_M_use_188 ?_
    refine callIO (q0 := 4) (pc := 189) (As := [.int (((st37.1 0) - v1) &&& 255)]) (rest := []) X (k_M_mark l g cs o st37 (((st37.1 0) - v1) &&& 255)) hC (NM_M_mark_210 X rfl rfl ⟨by decide, by decide⟩) rfl rfl rfl hl.1 (Nat.le_of_ble_eq_true rfl) rfl d_M_use_189 ⟨Nat.zero_le _, Nat.zero_le _⟩ (fun r39 st38 H locs est38 hC => ?_)
    replace he := bP_go he est38
    refine lv_istore_n (pc := 192) (nL := 3) (lv' := [(2, .int r39), (0, .ref (g.model)), (1, .int v1)]) hx hb d_M_use_192 rfl hl (by decide) rfl (fun ls hl => ?_)
    refine lv_goto (pc := 193) (tgt := 217) hx hb d_M_use_193 (by decide) ?_
    exact B217 _ _ _ st38   hC (lv_sub hl [] rfl) he
  have B91 : ∀ (H : Heap) (locs : List Loc) (ls : Array Slot) (st : MS) (s0 : Int32), HC g A s (wM g cs o st) H locs → lv_has ls 3 [] → f_M_use_91 st s0 = Rv → W p l e rm_M_use s m args below meth c H locs 0 0 Q (F0 m 91 ls [.int s0, .ref (g.model)]) := by
    intro H locs ls st s0  hC hl he
    unfold f_M_use_91 at he
    refine PM_a (pc := 91) X hC d_M_use_91 (fun st36 H locs est36 hC => ?_)
    replace he := bS_go he est36
    refine lv_goto (pc := 94) (tgt := 217) hx hb d_M_use_94 (by decide) ?_
    exact B217 _ _ _ st36   hC (lv_sub hl [] rfl) he
  unfold f_M_use at he
  refine lv_aload_n (pc := 0) hx hb d_M_use_0 rfl (lv_at hl 0 rfl) ?_
  refine GM_operation (pc := 1) X hC d_M_use_1 ?_
  by_cases h1 : (st.1 14) = 0
  · replace he := if_go he h1
    refine lv_tableIn (pc := 4) (tgt := 56) hx hb d_M_use_4 (by rw [h1]; decide) (by rw [h1]; decide) (by rw [h1]; rfl) (by decide) ?_
    refine lv_aload_n (pc := 56) hx hb d_M_use_56 rfl (lv_at hl 0 rfl) ?_
    refine lv_aload_n (pc := 57) hx hb d_M_use_57 rfl (lv_at hl 0 rfl) ?_
    refine lv_iload_n (pc := 58) hx hb d_M_use_58 rfl (lv_at hl 1 rfl) ?_
    refine callIO (q0 := 4) (pc := 59) (As := [.int v1]) (rest := [.ref (g.model)]) X (k_M_mark l g cs o st v1) hC (NM_M_mark_210 X rfl rfl ⟨by decide, by decide⟩) rfl rfl rfl hl.1 (Nat.le_of_ble_eq_true rfl) rfl d_M_use_59 ⟨Nat.zero_le _, Nat.zero_le _⟩ (fun r3 st2 H locs est2 hC => ?_)
    replace he := bP_go he est2
    refine PM_a (pc := 62) X hC d_M_use_62 (fun st4 H locs est4 hC => ?_)
    replace he := bS_go he est4
    refine lv_goto (pc := 65) (tgt := 217) hx hb d_M_use_65 (by decide) ?_
    exact B217 _ _ _ st4   hC (lv_sub hl [] rfl) he
  replace he := if_no he h1
  by_cases h5 : (st.1 14) = 1
  · replace he := if_go he h5
    refine lv_tableIn (pc := 4) (tgt := 208) hx hb d_M_use_4 (by rw [h5]; decide) (by rw [h5]; decide) (by rw [h5]; rfl) (by decide) ?_
    exact B208 _ _ _ st v1  hC (lv_sub hl [0, 1] rfl) he
  replace he := if_no he h5
  by_cases h6 : (st.1 14) = 2
  · replace he := if_go he h6
    refine lv_tableIn (pc := 4) (tgt := 68) hx hb d_M_use_4 (by rw [h6]; decide) (by rw [h6]; decide) (by rw [h6]; rfl) (by decide) ?_
    refine lv_aload_n (pc := 68) hx hb d_M_use_68 rfl (lv_at hl 0 rfl) ?_
    refine lv_aload_n (pc := 69) hx hb d_M_use_69 rfl (lv_at hl 0 rfl) ?_
    refine lv_bipush (pc := 70) (v := 8) hx hb d_M_use_70 (by decide) ?_
    refine callZO (q0 := 4) (pc := 72) (As := [.int 8]) (rest := [.ref (g.model)]) X (k_M_is l g cs o st 8) hC (NM_M_is_82 X rfl rfl ⟨by decide, by decide⟩) rfl rfl rfl hl.1 (Nat.le_of_ble_eq_true rfl) rfl d_M_use_72 ⟨Nat.zero_le _, Nat.zero_le _⟩ (fun r8 st7 H locs est7 br8 hC => ?_)
    replace he := bP_go he est7
    refine lv_if_eq (pc := 75) (tgt := 86) hx hb d_M_use_75 (by decide) (fun h9 => ?_) (fun h9 => ?_)
    · replace he := if_go he h9
      refine lv_aload_n (pc := 86) hx hb d_M_use_86 rfl (lv_at hl 0 rfl) ?_
      refine lv_iload_n (pc := 87) hx hb d_M_use_87 rfl (lv_at hl 1 rfl) ?_
      refine callIO (q0 := 4) (pc := 88) (As := [.int v1]) (rest := [.ref (g.model)]) X (k_M_add l g cs o st7 v1) hC (NM_M_add_226 X rfl rfl ⟨by decide, by decide⟩) rfl rfl rfl hl.1 (Nat.le_of_ble_eq_true rfl) rfl d_M_use_88 ⟨Nat.zero_le _, Nat.zero_le _⟩ (fun r11 st10 H locs est10 hC => ?_)
      replace he := bP_go he est10
      exact B91 _ _ _ st10 r11  hC (lv_sub hl [] rfl) he
    replace he := if_no he h9
    refine lv_aload_n (pc := 78) hx hb d_M_use_78 rfl (lv_at hl 0 rfl) ?_
    refine lv_iload_n (pc := 79) hx hb d_M_use_79 rfl (lv_at hl 1 rfl) ?_
    refine callIO (q0 := 4) (pc := 80) (As := [.int v1]) (rest := [.ref (g.model)]) X (k_M_addDecimal l g cs o st7 v1) hC (NM_M_addDecimal_223 X rfl rfl ⟨by decide, by decide⟩) rfl rfl rfl hl.1 (Nat.le_of_ble_eq_true rfl) rfl d_M_use_80 ⟨Nat.zero_le _, Nat.zero_le _⟩ (fun r13 st12 H locs est12 hC => ?_)
    replace he := bP_go he est12
    refine lv_goto (pc := 83) (tgt := 91) hx hb d_M_use_83 (by decide) ?_
    exact B91 _ _ _ st12 r13  hC (lv_sub hl [] rfl) he
  replace he := if_no he h6
  by_cases h14 : (st.1 14) = 3
  · replace he := if_go he h14
    refine lv_tableIn (pc := 4) (tgt := 97) hx hb d_M_use_4 (by rw [h14]; decide) (by rw [h14]; decide) (by rw [h14]; rfl) (by decide) ?_
    refine lv_aload_n (pc := 97) hx hb d_M_use_97 rfl (lv_at hl 0 rfl) ?_
    refine lv_aload_n (pc := 98) hx hb d_M_use_98 rfl (lv_at hl 0 rfl) ?_
    refine lv_iload_n (pc := 99) hx hb d_M_use_99 rfl (lv_at hl 1 rfl) ?_
    refine callIO (q0 := 4) (pc := 100) (As := [.int v1]) (rest := [.ref (g.model)]) X (k_M_subtract l g cs o st v1) hC (NM_M_subtract_229 X rfl rfl ⟨by decide, by decide⟩) rfl rfl rfl hl.1 (Nat.le_of_ble_eq_true rfl) rfl d_M_use_100 ⟨Nat.zero_le _, Nat.zero_le _⟩ (fun r16 st15 H locs est15 hC => ?_)
    replace he := bP_go he est15
    refine PM_a (pc := 103) X hC d_M_use_103 (fun st17 H locs est17 hC => ?_)
    replace he := bS_go he est17
    refine lv_goto (pc := 106) (tgt := 217) hx hb d_M_use_106 (by decide) ?_
    exact B217 _ _ _ st17   hC (lv_sub hl [] rfl) he
  replace he := if_no he h14
  by_cases h18 : (st.1 14) = 4
  · replace he := if_go he h18
    refine lv_tableIn (pc := 4) (tgt := 109) hx hb d_M_use_4 (by rw [h18]; decide) (by rw [h18]; decide) (by rw [h18]; rfl) (by decide) ?_
    refine lv_aload_n (pc := 109) hx hb d_M_use_109 rfl (lv_at hl 0 rfl) ?_
    refine lv_aload_n (pc := 110) hx hb d_M_use_110 rfl (lv_at hl 0 rfl) ?_
    refine lv_aload_n (pc := 111) hx hb d_M_use_111 rfl (lv_at hl 0 rfl) ?_
    refine GM_a (pc := 112) X hC d_M_use_112 ?_
    refine lv_iload_n (pc := 115) hx hb d_M_use_115 rfl (lv_at hl 1 rfl) ?_
    refine lv_iand (pc := 116) hx hb d_M_use_116 ?_
    refine callIO (q0 := 4) (pc := 117) (As := [.int ((st.1 0) &&& v1)]) (rest := [.ref (g.model)]) X (k_M_mark l g cs o st ((st.1 0) &&& v1)) hC (NM_M_mark_210 X rfl rfl ⟨by decide, by decide⟩) rfl rfl rfl hl.1 (Nat.le_of_ble_eq_true rfl) rfl d_M_use_117 ⟨Nat.zero_le _, Nat.zero_le _⟩ (fun r20 st19 H locs est19 hC => ?_)
    replace he := bP_go he est19
    refine PM_a (pc := 120) X hC d_M_use_120 (fun st21 H locs est21 hC => ?_)
    replace he := bS_go he est21
    refine lv_goto (pc := 123) (tgt := 217) hx hb d_M_use_123 (by decide) ?_
    exact B217 _ _ _ st21   hC (lv_sub hl [] rfl) he
  replace he := if_no he h18
  by_cases h22 : (st.1 14) = 5
  · replace he := if_go he h22
    refine lv_tableIn (pc := 4) (tgt := 126) hx hb d_M_use_4 (by rw [h22]; decide) (by rw [h22]; decide) (by rw [h22]; rfl) (by decide) ?_
    refine lv_aload_n (pc := 126) hx hb d_M_use_126 rfl (lv_at hl 0 rfl) ?_
    refine lv_aload_n (pc := 127) hx hb d_M_use_127 rfl (lv_at hl 0 rfl) ?_
    refine lv_aload_n (pc := 128) hx hb d_M_use_128 rfl (lv_at hl 0 rfl) ?_
    refine GM_a (pc := 129) X hC d_M_use_129 ?_
    refine lv_iload_n (pc := 132) hx hb d_M_use_132 rfl (lv_at hl 1 rfl) ?_
    refine lv_ior (pc := 133) hx hb d_M_use_133 ?_
    refine callIO (q0 := 4) (pc := 134) (As := [.int ((st.1 0) ||| v1)]) (rest := [.ref (g.model)]) X (k_M_mark l g cs o st ((st.1 0) ||| v1)) hC (NM_M_mark_210 X rfl rfl ⟨by decide, by decide⟩) rfl rfl rfl hl.1 (Nat.le_of_ble_eq_true rfl) rfl d_M_use_134 ⟨Nat.zero_le _, Nat.zero_le _⟩ (fun r24 st23 H locs est23 hC => ?_)
    replace he := bP_go he est23
    refine PM_a (pc := 137) X hC d_M_use_137 (fun st25 H locs est25 hC => ?_)
    replace he := bS_go he est25
    refine lv_goto (pc := 140) (tgt := 217) hx hb d_M_use_140 (by decide) ?_
    exact B217 _ _ _ st25   hC (lv_sub hl [] rfl) he
  replace he := if_no he h22
  by_cases h26 : (st.1 14) = 6
  · replace he := if_go he h26
    refine lv_tableIn (pc := 4) (tgt := 143) hx hb d_M_use_4 (by rw [h26]; decide) (by rw [h26]; decide) (by rw [h26]; rfl) (by decide) ?_
    refine lv_aload_n (pc := 143) hx hb d_M_use_143 rfl (lv_at hl 0 rfl) ?_
    refine lv_aload_n (pc := 144) hx hb d_M_use_144 rfl (lv_at hl 0 rfl) ?_
    refine lv_aload_n (pc := 145) hx hb d_M_use_145 rfl (lv_at hl 0 rfl) ?_
    refine GM_a (pc := 146) X hC d_M_use_146 ?_
    refine lv_iload_n (pc := 149) hx hb d_M_use_149 rfl (lv_at hl 1 rfl) ?_
    refine lv_ixor (pc := 150) hx hb d_M_use_150 ?_
    refine callIO (q0 := 4) (pc := 151) (As := [.int ((st.1 0) ^^^ v1)]) (rest := [.ref (g.model)]) X (k_M_mark l g cs o st ((st.1 0) ^^^ v1)) hC (NM_M_mark_210 X rfl rfl ⟨by decide, by decide⟩) rfl rfl rfl hl.1 (Nat.le_of_ble_eq_true rfl) rfl d_M_use_151 ⟨Nat.zero_le _, Nat.zero_le _⟩ (fun r28 st27 H locs est27 hC => ?_)
    replace he := bP_go he est27
    refine PM_a (pc := 154) X hC d_M_use_154 (fun st29 H locs est29 hC => ?_)
    replace he := bS_go he est29
    refine lv_goto (pc := 157) (tgt := 217) hx hb d_M_use_157 (by decide) ?_
    exact B217 _ _ _ st29   hC (lv_sub hl [] rfl) he
  replace he := if_no he h26
  by_cases h30 : (st.1 14) = 7
  · replace he := if_go he h30
    refine lv_tableIn (pc := 4) (tgt := 160) hx hb d_M_use_4 (by rw [h30]; decide) (by rw [h30]; decide) (by rw [h30]; rfl) (by decide) ?_
    refine lv_aload_n (pc := 160) hx hb d_M_use_160 rfl (lv_at hl 0 rfl) ?_
    refine lv_iconst (pc := 161) (v := 1) hx hb d_M_use_161 (by decide) ?_
    refine lv_aload_n (pc := 162) hx hb d_M_use_162 rfl (lv_at hl 0 rfl) ?_
    refine GM_a (pc := 163) X hC d_M_use_163 ?_
    refine lv_iload_n (pc := 166) hx hb d_M_use_166 rfl (lv_at hl 1 rfl) ?_
    refine lv_icmp_lt (pc := 167) (tgt := 174) hx hb d_M_use_167 (by decide) (fun h31 => ?_) (fun h31 => ?_)
    · replace he := if_go he h31
      refine lv_iconst (pc := 174) (v := 0) hx hb d_M_use_174 (by decide) ?_
      exact B175 _ _ _ st v1 0 1 b0 b1 hC (lv_sub hl [0, 1] rfl) he
    replace he := if_no he h31
    refine lv_iconst (pc := 170) (v := 1) hx hb d_M_use_170 (by decide) ?_
    refine lv_goto (pc := 171) (tgt := 175) hx hb d_M_use_171 (by decide) ?_
    exact B175 _ _ _ st v1 1 1 b1 b1 hC (lv_sub hl [0, 1] rfl) he
  replace he := if_no he h30
  by_cases h32 : (st.1 14) = 8
  · replace he := if_go he h32
    refine lv_tableIn (pc := 4) (tgt := 196) hx hb d_M_use_4 (by rw [h32]; decide) (by rw [h32]; decide) (by rw [h32]; rfl) (by decide) ?_
    refine lv_aload_n (pc := 196) hx hb d_M_use_196 rfl (lv_at hl 0 rfl) ?_
    refine lv_aload_n (pc := 197) hx hb d_M_use_197 rfl (lv_at hl 0 rfl) ?_
    refine lv_iload_n (pc := 198) hx hb d_M_use_198 rfl (lv_at hl 1 rfl) ?_
    refine callIO (q0 := 4) (pc := 199) (As := [.int v1]) (rest := [.ref (g.model)]) X (k_M_mark l g cs o st v1) hC (NM_M_mark_210 X rfl rfl ⟨by decide, by decide⟩) rfl rfl rfl hl.1 (Nat.le_of_ble_eq_true rfl) rfl d_M_use_199 ⟨Nat.zero_le _, Nat.zero_le _⟩ (fun r34 st33 H locs est33 hC => ?_)
    replace he := bP_go he est33
    refine PM_x (pc := 202) X hC d_M_use_202 (fun st35 H locs est35 hC => ?_)
    replace he := bS_go he est35
    refine lv_goto (pc := 205) (tgt := 217) hx hb d_M_use_205 (by decide) ?_
    exact B217 _ _ _ st35   hC (lv_sub hl [] rfl) he
  replace he := if_no he h32
  refine lv_tableOut (pc := 4) (tgt := 208) hx hb d_M_use_4 (by have nh1 := lv_neT (a := 0) h1 (by decide); have nh5 := lv_neT (a := 1) h5 (by decide); have nh6 := lv_neT (a := 2) h6 (by decide); have nh14 := lv_neT (a := 3) h14 (by decide); have nh18 := lv_neT (a := 4) h18 (by decide); have nh22 := lv_neT (a := 5) h22 (by decide); have nh26 := lv_neT (a := 6) h26 (by decide); have nh30 := lv_neT (a := 7) h30 (by decide); have nh32 := lv_neT (a := 8) h32 (by decide); omega) (by decide) ?_
  exact B208 _ _ _ st v1  hC (lv_sub hl [0, 1] rfl) he
def f_M_changed_60 (st : MS) (s0 : Int32) : Int32 × MS := (s0, st)
def f_M_changed (st : MS) (v1 : Int32) : Int32 × MS := if (st.1 14) = 10 then (f_M_changed_60 st ((v1 + 1) &&& 255)) else (if (st.1 14) = 11 then (f_M_changed_60 st ((v1 - 1) &&& 255)) else (if (st.1 14) = 12 then (f_M_changed_60 st ((2 * v1) &&& 255)) else (f_M_changed_60 st (v1 >>> ((1 : Int32) &&& 31)))))
abbrev rm_M_changed : Room := { frames := 0, cells := 0, slots := 0, locals := 0 }
set_option maxHeartbeats 4000000 in
set_option maxRecDepth 100000 in
theorem k_M_changed (l : Launch) (g : CG) (cs : CS) (o : Nat → Int64) (st : MS) (v1 : Int32) : KI l g y_M_changed (Cond.code y_M_changed c_M_changed 2 (some .int) :: ALL) rm_M_changed [.ref (g.model), .int v1] (wM g cs o) st (f_M_changed st v1) := by
  refine KI.ofW (by decide) (Nat.le_of_ble_eq_true rfl) ?_
  intro p e s m args below meth c A Q ls Rv X he RET hC hl
  obtain ⟨hx, hb⟩ := FX_xb X
  have hl : lv_has ls 2 [(0, .ref (g.model)), (1, .int v1)] := hl
  have B60 : ∀ (H : Heap) (locs : List Loc) (ls : Array Slot) (st : MS) (s0 : Int32), HC g A s (wM g cs o st) H locs → lv_has ls 2 [] → f_M_changed_60 st s0 = Rv → W p l e rm_M_changed s m args below meth c H locs 0 0 Q (F0 m 60 ls [.int s0]) := by
    intro H locs ls st s0  hC hl he
    unfold f_M_changed_60 at he
    exact RET (pc := 60) d_M_changed_60 hC he
  unfold f_M_changed at he
  refine lv_aload_n (pc := 0) hx hb d_M_changed_0 rfl (lv_at hl 0 rfl) ?_
  refine GM_operation (pc := 1) X hC d_M_changed_1 ?_
  refine lv_bipush (pc := 4) (v := 10) hx hb d_M_changed_4 (by decide) ?_
  refine lv_icmp_ne (pc := 6) (tgt := 19) hx hb d_M_changed_6 (by decide) (fun h1 => ?_) (fun h1 => ?_)
  · replace he := if_no he h1
    refine lv_aload_n (pc := 19) hx hb d_M_changed_19 rfl (lv_at hl 0 rfl) ?_
    refine GM_operation (pc := 20) X hC d_M_changed_20 ?_
    refine lv_bipush (pc := 23) (v := 11) hx hb d_M_changed_23 (by decide) ?_
    refine lv_icmp_ne (pc := 25) (tgt := 38) hx hb d_M_changed_25 (by decide) (fun h2 => ?_) (fun h2 => ?_)
    · replace he := if_no he h2
      refine lv_aload_n (pc := 38) hx hb d_M_changed_38 rfl (lv_at hl 0 rfl) ?_
      refine GM_operation (pc := 39) X hC d_M_changed_39 ?_
      refine lv_bipush (pc := 42) (v := 12) hx hb d_M_changed_42 (by decide) ?_
      refine lv_icmp_ne (pc := 44) (tgt := 57) hx hb d_M_changed_44 (by decide) (fun h3 => ?_) (fun h3 => ?_)
      · replace he := if_no he h3
        refine lv_iload_n (pc := 57) hx hb d_M_changed_57 rfl (lv_at hl 1 rfl) ?_
        refine lv_iconst (pc := 58) (v := 1) hx hb d_M_changed_58 (by decide) ?_
        refine lv_ishr (pc := 59) hx hb d_M_changed_59 ?_
        exact B60 _ _ _ st (v1 >>> ((1 : Int32) &&& 31))  hC (lv_sub hl [] rfl) he
      replace he := if_go he h3
      refine lv_iconst (pc := 47) (v := 2) hx hb d_M_changed_47 (by decide) ?_
      refine lv_iload_n (pc := 48) hx hb d_M_changed_48 rfl (lv_at hl 1 rfl) ?_
      refine lv_imul (pc := 49) hx hb d_M_changed_49 ?_
      refine lv_sipush (pc := 50) (v := 255) hx hb d_M_changed_50 (by decide) ?_
      refine lv_iand (pc := 53) hx hb d_M_changed_53 ?_
      refine lv_goto (pc := 54) (tgt := 60) hx hb d_M_changed_54 (by decide) ?_
      exact B60 _ _ _ st ((2 * v1) &&& 255)  hC (lv_sub hl [] rfl) he
    replace he := if_go he h2
    refine lv_iload_n (pc := 28) hx hb d_M_changed_28 rfl (lv_at hl 1 rfl) ?_
    refine lv_iconst (pc := 29) (v := 1) hx hb d_M_changed_29 (by decide) ?_
    refine lv_isub (pc := 30) hx hb d_M_changed_30 ?_
    refine lv_sipush (pc := 31) (v := 255) hx hb d_M_changed_31 (by decide) ?_
    refine lv_iand (pc := 34) hx hb d_M_changed_34 ?_
    refine lv_goto (pc := 35) (tgt := 60) hx hb d_M_changed_35 (by decide) ?_
    exact B60 _ _ _ st ((v1 - 1) &&& 255)  hC (lv_sub hl [] rfl) he
  replace he := if_go he h1
  refine lv_iload_n (pc := 9) hx hb d_M_changed_9 rfl (lv_at hl 1 rfl) ?_
  refine lv_iconst (pc := 10) (v := 1) hx hb d_M_changed_10 (by decide) ?_
  refine lv_iadd (pc := 11) hx hb d_M_changed_11 ?_
  refine lv_sipush (pc := 12) (v := 255) hx hb d_M_changed_12 (by decide) ?_
  refine lv_iand (pc := 15) hx hb d_M_changed_15 ?_
  refine lv_goto (pc := 16) (tgt := 60) hx hb d_M_changed_16 (by decide) ?_
  exact B60 _ _ _ st ((v1 + 1) &&& 255)  hC (lv_sub hl [] rfl) he
