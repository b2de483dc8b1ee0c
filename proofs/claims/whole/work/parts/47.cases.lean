/-! the law's cases -/
section LAWC
variable {π : gP} {mi mj : gM} {pc : Nat} {loc stk : List gV} {h h' : gH} {mc ms : Nat} {Q : Option (Option gV) → gH → Prop} {y : MethodName} {idx : Nat} {v : Int}
theorem g_more {a b : Nat} (k : G π mi pc loc stk h mc ms Q) : G π mi pc loc stk h (mc + a) (ms + b) Q := by
  intro Γ p e R s m args below meth c QE H locs cells slots ls st hC hE hH hl hs hS h1 h2
  exact k Γ p e R s m args below meth c QE H locs cells slots ls st hC hE hH hl hs hS (by omega) (by omega)
theorem g_SH {as : List gV} {q0 : Nat × Nat × Nat × Nat} {qs : List (Nat × Nat × Nat × Nat)} (hd : decode mi.2.1 pc = .ok (.invokestatic idx, 3)) (hw : gW π mi.1 mj idx y as.length) (hh : mj.2.2.2.2.2.2.2 = q0 :: qs) (hR : mj.2.2.2.1 + 1 ≤ mi.2.2.2.1 ∧ 8 + (mj.2.2.1 + 11) + mj.2.2.2.2.1 ≤ mi.2.2.2.2.1) (hv : Cond.static y ∈ π.2.1) (h8 : gcs stk ≤ 8)
    (hM : gMet π mj y as h 1 6 (fun r k => r = some (some (gI v)) ∧ k = h')) (kk : G π mi (pc + 3) loc (gI v :: stk) h' mc ms Q) : G π mi pc loc (as.reverse ++ stk) h (mc + 1) (ms + 6) Q :=
  g_callSH hd hw hh hR hv h8 hM (fun _ _ z => by obtain ⟨z1, z2⟩ := z; cases z1; subst z2; exact kk) (fun _ z => by cases z.1)
theorem gcmp_self {x : Int} : gcmp x x = 0 := by unfold gcmp; simp
theorem gadd_nat9 {i k : Nat} (h : i + k < 2147483648) : gadd (i : Int) (k : Int) = ((i + k : Nat) : Int) := by
  rw [gadd_eq (by omega) (by omega)]; omega
end LAWC
set_option maxHeartbeats 2000000 in
theorem la_pulse (l : Launch) {L t i mc ms : Nat} {S : sT} {M : Nat → Nat → Int} {Q : Option (Option gV) → gH → Prop} (h : Rel t S M) (ht : t ≤ 1000) (hi : i + 4 ≤ L) (hL : L < 100000) {e5 e6 : gV} (kk : ∀ (S' : sT) (M' : Nat → Nat → Int) (e5 e6 : gV), K0 S.1 S'.1 → Rel (t + 1) S' M' → G (gπ l) mL_law 929 [gR (some 0), gR (some 1), gR (some 74), gR (some 86), gI (i : Int), e5, e6] [] (hS L S' M') mc ms Q) : G (gπ l) mL_law 112 [gR (some 0), gR (some 1), gR (some 74), gR (some 86), gI (i : Int), e5, e6] [] (hS L S M) (mc + 1) (ms + 6) Q := by
  rcases q_pulse l (L := L) h (v := S.1 0 (i + 1)) with ⟨S', x, h1, h2, hb, h3⟩ | ⟨h1, h3⟩
  · obtain ⟨M', m1, m2, m3, m4⟩ := h3 (up M 86 0 x) (rel_out h (fun a d _ _ => up_cell (by omega)) (fun d _ => up_cell (by omega)))
    refine g_aload_n dL_law_112 rfl rfl ?_
    refine g_aload_n dL_law_113 rfl rfl ?_
    refine g_iload dL_law_114 rfl ?_
    refine g_iconst (x := 1) dL_law_116 (by decide) ?_
    refine e_iadd (v := ((i + 1 : Nat) : Int)) dL_law_117 (gadd_nat9 (k := 1) (by omega)) ?_
    refine c_ialdS (x := S.1 0 (i + 1)) dL_law_118 (by omega) (by omega) rfl ?_
    refine g_aload_n dL_law_119 rfl rfl ?_
    refine g_SH (as := [gR (some 1), gI (S.1 0 (i + 1)), gR (some 86)]) (v := 0) dL_law_120 (sL_law_120 l) rfl ⟨by decide, by decide⟩ tL_pulse (Nat.le_of_ble_eq_true rfl) (wL_pulse_1 l (h1 M)) ?_
    refine e_istore (loc' := [gR (some 0), gR (some 1), gR (some 74), gR (some 86), gI (i : Int), gI (0), e6]) dL_law_123 (by decide) rfl ?_
    refine g_aload_n dL_law_125 rfl rfl ?_
    refine g_aload_n dL_law_126 rfl rfl ?_
    refine g_iload dL_law_127 rfl ?_
    refine g_iconst (x := 1) dL_law_129 (by decide) ?_
    refine e_iadd (v := ((i + 1 : Nat) : Int)) dL_law_130 (gadd_nat9 (k := 1) (by omega)) ?_
    refine c_ialdS (x := S.1 0 (i + 1)) dL_law_131 (by omega) (by omega) (h2 (i + 1)) ?_
    refine g_Vi1 dL_law_132 (sL_law_132 l) rfl (by show 74 < 87; omega) (Nat.le_of_ble_eq_true rfl) m1 ?_
    refine e_istore (loc' := [gR (some 0), gR (some 1), gR (some 74), gR (some 86), gI (i : Int), gI (0), gI (x)]) dL_law_135 (by decide) rfl ?_
    refine g_aload_n dL_law_137 rfl rfl ?_
    refine g_Vi0 dL_law_138 (sL_law_138 l) rfl (by show 74 < 87; omega) (Nat.le_of_ble_eq_true rfl) (gMi_to 0 (cX6_thrown l) m3) ?_
    refine g_iload dL_law_141 rfl ?_
    refine g_icmp_eq (tgt := 148) dL_law_143 (by decide) (fun c143 => ?_) (fun c143 => absurd c143 (by omega))
    refine g_iload dL_law_148 rfl ?_
    refine g_if_ne (tgt := 165) dL_law_150 (by decide) (fun c150 => absurd c150 (by omega)) (fun c150 => ?_)
    refine g_aload_n dL_law_153 rfl rfl ?_
    refine g_iconst (x := 0) dL_law_154 (by decide) ?_
    refine m_lald (x := x) dL_law_155 rfl ((m4 0).trans up_same) ?_
    refine g_iload dL_law_156 rfl ?_
    refine g_i2l dL_law_158 ?_
    refine g_lcmp dL_law_159 ?_
    refine g_if_eq (tgt := 165) dL_law_160 (by decide) (fun c160 => ?_) (fun c160 => absurd gcmp_self c160)
    refine g_goto (tgt := 929) dL_law_165 (by decide) ?_
    exact kk S' M' _ _ h2 m2
  · refine g_aload_n dL_law_112 rfl rfl ?_
    refine g_aload_n dL_law_113 rfl rfl ?_
    refine g_iload dL_law_114 rfl ?_
    refine g_iconst (x := 1) dL_law_116 (by decide) ?_
    refine e_iadd (v := ((i + 1 : Nat) : Int)) dL_law_117 (gadd_nat9 (k := 1) (by omega)) ?_
    refine c_ialdS (x := S.1 0 (i + 1)) dL_law_118 (by omega) (by omega) rfl ?_
    refine g_aload_n dL_law_119 rfl rfl ?_
    refine g_SH (as := [gR (some 1), gI (S.1 0 (i + 1)), gR (some 86)]) (v := 1) dL_law_120 (sL_law_120 l) rfl ⟨by decide, by decide⟩ tL_pulse (Nat.le_of_ble_eq_true rfl) (wL_pulse_x l (h1 M)) ?_
    refine e_istore (loc' := [gR (some 0), gR (some 1), gR (some 74), gR (some 86), gI (i : Int), gI (1), e6]) dL_law_123 (by decide) rfl ?_
    refine g_aload_n dL_law_125 rfl rfl ?_
    refine g_aload_n dL_law_126 rfl rfl ?_
    refine g_iload dL_law_127 rfl ?_
    refine g_iconst (x := 1) dL_law_129 (by decide) ?_
    refine e_iadd (v := ((i + 1 : Nat) : Int)) dL_law_130 (gadd_nat9 (k := 1) (by omega)) ?_
    refine c_ialdS (x := S.1 0 (i + 1)) dL_law_131 (by omega) (by omega) rfl ?_
    refine g_Vi1 dL_law_132 (sL_law_132 l) rfl (by show 74 < 87; omega) (Nat.le_of_ble_eq_true rfl) (h3 M) ?_
    refine e_istore (loc' := [gR (some 0), gR (some 1), gR (some 74), gR (some 86), gI (i : Int), gI (1), gI (0)]) dL_law_135 (by decide) rfl ?_
    refine g_aload_n dL_law_137 rfl rfl ?_
    refine g_Vi0 dL_law_138 (sL_law_138 l) rfl (by show 74 < 87; omega) (Nat.le_of_ble_eq_true rfl) (gMi_to 1 (cX6_thrown l) up_same) ?_
    refine g_iload dL_law_141 rfl ?_
    refine g_icmp_eq (tgt := 148) dL_law_143 (by decide) (fun c143 => ?_) (fun c143 => absurd c143 (by omega))
    refine g_iload dL_law_148 rfl ?_
    refine g_if_ne (tgt := 165) dL_law_150 (by decide) (fun c150 => ?_) (fun c150 => absurd c150 (by omega))
    refine g_goto (tgt := 929) dL_law_165 (by decide) ?_
    exact kk S (up M 74 0 1) _ _ K0.rfl (rel_out h (fun a d _ _ => up_cell (by omega)) (fun d e => up_slot e)).mono
set_option maxHeartbeats 2000000 in
theorem la_tick (l : Launch) {L t i mc ms : Nat} {S : sT} {M : Nat → Nat → Int} {Q : Option (Option gV) → gH → Prop} (h : Rel t S M) (ht : t ≤ 1000) (hi : i + 4 ≤ L) (hL : L < 100000) {e5 e6 : gV} (kk : ∀ (S' : sT) (M' : Nat → Nat → Int) (e5 e6 : gV), K0 S.1 S'.1 → Rel (t + 1) S' M' → G (gπ l) mL_law 929 [gR (some 0), gR (some 1), gR (some 74), gR (some 86), gI (i : Int), e5, e6] [] (hS L S' M') mc ms Q) : G (gπ l) mL_law 168 [gR (some 0), gR (some 1), gR (some 74), gR (some 86), gI (i : Int), e5, e6] [] (hS L S M) (mc + 1) (ms + 6) Q := by
  rcases q_tick l (L := L) h ht (v := S.1 0 (i + 1)) with ⟨S', x, h1, h2, hb, h3⟩ | ⟨h1, h3⟩
  · obtain ⟨M', m1, m2, m3, m4⟩ := h3 (up M 86 0 x) (rel_out h (fun a d _ _ => up_cell (by omega)) (fun d _ => up_cell (by omega)))
    refine g_aload_n dL_law_168 rfl rfl ?_
    refine g_aload_n dL_law_169 rfl rfl ?_
    refine g_iload dL_law_170 rfl ?_
    refine g_iconst (x := 1) dL_law_172 (by decide) ?_
    refine e_iadd (v := ((i + 1 : Nat) : Int)) dL_law_173 (gadd_nat9 (k := 1) (by omega)) ?_
    refine c_ialdS (x := S.1 0 (i + 1)) dL_law_174 (by omega) (by omega) rfl ?_
    refine g_aload_n dL_law_175 rfl rfl ?_
    refine g_SH (as := [gR (some 1), gI (S.1 0 (i + 1)), gR (some 86)]) (v := 0) dL_law_176 (sL_law_176 l) rfl ⟨by decide, by decide⟩ tL_tick (Nat.le_of_ble_eq_true rfl) (wL_tick_1 l (h1 M)) ?_
    refine e_istore (loc' := [gR (some 0), gR (some 1), gR (some 74), gR (some 86), gI (i : Int), gI (0), e6]) dL_law_179 (by decide) rfl ?_
    refine g_aload_n dL_law_181 rfl rfl ?_
    refine g_aload_n dL_law_182 rfl rfl ?_
    refine g_iload dL_law_183 rfl ?_
    refine g_iconst (x := 1) dL_law_185 (by decide) ?_
    refine e_iadd (v := ((i + 1 : Nat) : Int)) dL_law_186 (gadd_nat9 (k := 1) (by omega)) ?_
    refine c_ialdS (x := S.1 0 (i + 1)) dL_law_187 (by omega) (by omega) (h2 (i + 1)) ?_
    refine g_Vi1 dL_law_188 (sL_law_188 l) rfl (by show 74 < 87; omega) (Nat.le_of_ble_eq_true rfl) m1 ?_
    refine e_istore (loc' := [gR (some 0), gR (some 1), gR (some 74), gR (some 86), gI (i : Int), gI (0), gI (x)]) dL_law_191 (by decide) rfl ?_
    refine g_aload_n dL_law_193 rfl rfl ?_
    refine g_Vi0 dL_law_194 (sL_law_194 l) rfl (by show 74 < 87; omega) (Nat.le_of_ble_eq_true rfl) (gMi_to 0 (cX6_thrown l) m3) ?_
    refine g_iload dL_law_197 rfl ?_
    refine g_icmp_eq (tgt := 204) dL_law_199 (by decide) (fun c199 => ?_) (fun c199 => absurd c199 (by omega))
    refine g_iload dL_law_204 rfl ?_
    refine g_if_ne (tgt := 221) dL_law_206 (by decide) (fun c206 => absurd c206 (by omega)) (fun c206 => ?_)
    refine g_aload_n dL_law_209 rfl rfl ?_
    refine g_iconst (x := 0) dL_law_210 (by decide) ?_
    refine m_lald (x := x) dL_law_211 rfl ((m4 0).trans up_same) ?_
    refine g_iload dL_law_212 rfl ?_
    refine g_i2l dL_law_214 ?_
    refine g_lcmp dL_law_215 ?_
    refine g_if_eq (tgt := 221) dL_law_216 (by decide) (fun c216 => ?_) (fun c216 => absurd gcmp_self c216)
    refine g_goto (tgt := 929) dL_law_221 (by decide) ?_
    exact kk S' M' _ _ h2 m2
  · refine g_aload_n dL_law_168 rfl rfl ?_
    refine g_aload_n dL_law_169 rfl rfl ?_
    refine g_iload dL_law_170 rfl ?_
    refine g_iconst (x := 1) dL_law_172 (by decide) ?_
    refine e_iadd (v := ((i + 1 : Nat) : Int)) dL_law_173 (gadd_nat9 (k := 1) (by omega)) ?_
    refine c_ialdS (x := S.1 0 (i + 1)) dL_law_174 (by omega) (by omega) rfl ?_
    refine g_aload_n dL_law_175 rfl rfl ?_
    refine g_SH (as := [gR (some 1), gI (S.1 0 (i + 1)), gR (some 86)]) (v := 1) dL_law_176 (sL_law_176 l) rfl ⟨by decide, by decide⟩ tL_tick (Nat.le_of_ble_eq_true rfl) (wL_tick_x l (h1 M)) ?_
    refine e_istore (loc' := [gR (some 0), gR (some 1), gR (some 74), gR (some 86), gI (i : Int), gI (1), e6]) dL_law_179 (by decide) rfl ?_
    refine g_aload_n dL_law_181 rfl rfl ?_
    refine g_aload_n dL_law_182 rfl rfl ?_
    refine g_iload dL_law_183 rfl ?_
    refine g_iconst (x := 1) dL_law_185 (by decide) ?_
    refine e_iadd (v := ((i + 1 : Nat) : Int)) dL_law_186 (gadd_nat9 (k := 1) (by omega)) ?_
    refine c_ialdS (x := S.1 0 (i + 1)) dL_law_187 (by omega) (by omega) rfl ?_
    refine g_Vi1 dL_law_188 (sL_law_188 l) rfl (by show 74 < 87; omega) (Nat.le_of_ble_eq_true rfl) (h3 M) ?_
    refine e_istore (loc' := [gR (some 0), gR (some 1), gR (some 74), gR (some 86), gI (i : Int), gI (1), gI (0)]) dL_law_191 (by decide) rfl ?_
    refine g_aload_n dL_law_193 rfl rfl ?_
    refine g_Vi0 dL_law_194 (sL_law_194 l) rfl (by show 74 < 87; omega) (Nat.le_of_ble_eq_true rfl) (gMi_to 1 (cX6_thrown l) up_same) ?_
    refine g_iload dL_law_197 rfl ?_
    refine g_icmp_eq (tgt := 204) dL_law_199 (by decide) (fun c199 => ?_) (fun c199 => absurd c199 (by omega))
    refine g_iload dL_law_204 rfl ?_
    refine g_if_ne (tgt := 221) dL_law_206 (by decide) (fun c206 => ?_) (fun c206 => absurd c206 (by omega))
    refine g_goto (tgt := 929) dL_law_221 (by decide) ?_
    exact kk S (up M 74 0 1) _ _ K0.rfl (rel_out h (fun a d _ _ => up_cell (by omega)) (fun d e => up_slot e)).mono
set_option maxHeartbeats 2000000 in
theorem la_gauge (l : Launch) {L t i mc ms : Nat} {S : sT} {M : Nat → Nat → Int} {Q : Option (Option gV) → gH → Prop} (h : Rel t S M) (ht : t ≤ 1000) (hi : i + 4 ≤ L) (hL : L < 100000) {e5 e6 : gV} (kk : ∀ (S' : sT) (M' : Nat → Nat → Int) (e5 e6 : gV), K0 S.1 S'.1 → Rel (t + 1) S' M' → G (gπ l) mL_law 929 [gR (some 0), gR (some 1), gR (some 74), gR (some 86), gI (i : Int), e5, e6] [] (hS L S' M') mc ms Q) : G (gπ l) mL_law 224 [gR (some 0), gR (some 1), gR (some 74), gR (some 86), gI (i : Int), e5, e6] [] (hS L S M) (mc + 1) (ms + 6) Q := by
  rcases q_gauge l (L := L) h (s := S.1 0 (i + 1)) (a := S.1 0 (i + 2)) (b := S.1 0 (i + 3)) with ⟨S', x, h1, h2, hb, h3⟩ | ⟨h1, h3⟩
  · obtain ⟨M', m1, m2, m3, m4⟩ := h3 (up M 86 0 x) (rel_out h (fun a d _ _ => up_cell (by omega)) (fun d _ => up_cell (by omega)))
    have hx := hb rfl
    rcases hx with rfl | rfl
    · refine g_aload_n dL_law_224 rfl rfl ?_
      refine g_aload_n dL_law_225 rfl rfl ?_
      refine g_iload dL_law_226 rfl ?_
      refine g_iconst (x := 1) dL_law_228 (by decide) ?_
      refine e_iadd (v := ((i + 1 : Nat) : Int)) dL_law_229 (gadd_nat9 (k := 1) (by omega)) ?_
      refine c_ialdS (x := S.1 0 (i + 1)) dL_law_230 (by omega) (by omega) rfl ?_
      refine g_aload_n dL_law_231 rfl rfl ?_
      refine g_iload dL_law_232 rfl ?_
      refine g_iconst (x := 2) dL_law_234 (by decide) ?_
      refine e_iadd (v := ((i + 2 : Nat) : Int)) dL_law_235 (gadd_nat9 (k := 2) (by omega)) ?_
      refine c_ialdS (x := S.1 0 (i + 2)) dL_law_236 (by omega) (by omega) rfl ?_
      refine g_aload_n dL_law_237 rfl rfl ?_
      refine g_iload dL_law_238 rfl ?_
      refine g_iconst (x := 3) dL_law_240 (by decide) ?_
      refine e_iadd (v := ((i + 3 : Nat) : Int)) dL_law_241 (gadd_nat9 (k := 3) (by omega)) ?_
      refine c_ialdS (x := S.1 0 (i + 3)) dL_law_242 (by omega) (by omega) rfl ?_
      refine g_aload_n dL_law_243 rfl rfl ?_
      refine g_SH (as := [gR (some 1), gI (S.1 0 (i + 1)), gI (S.1 0 (i + 2)), gI (S.1 0 (i + 3)), gR (some 86)]) (v := 0) dL_law_244 (sL_law_244 l) rfl ⟨by decide, by decide⟩ tL_gauge (Nat.le_of_ble_eq_true rfl) (wL_gauge_1 l (h1 M) (by omega)) ?_
      refine e_istore (loc' := [gR (some 0), gR (some 1), gR (some 74), gR (some 86), gI (i : Int), gI (0), e6]) dL_law_247 (by decide) rfl ?_
      refine g_aload_n dL_law_249 rfl rfl ?_
      refine g_aload_n dL_law_250 rfl rfl ?_
      refine g_iload dL_law_251 rfl ?_
      refine g_iconst (x := 1) dL_law_253 (by decide) ?_
      refine e_iadd (v := ((i + 1 : Nat) : Int)) dL_law_254 (gadd_nat9 (k := 1) (by omega)) ?_
      refine c_ialdS (x := S.1 0 (i + 1)) dL_law_255 (by omega) (by omega) (h2 (i + 1)) ?_
      refine g_aload_n dL_law_256 rfl rfl ?_
      refine g_iload dL_law_257 rfl ?_
      refine g_iconst (x := 2) dL_law_259 (by decide) ?_
      refine e_iadd (v := ((i + 2 : Nat) : Int)) dL_law_260 (gadd_nat9 (k := 2) (by omega)) ?_
      refine c_ialdS (x := S.1 0 (i + 2)) dL_law_261 (by omega) (by omega) (h2 (i + 2)) ?_
      refine g_aload_n dL_law_262 rfl rfl ?_
      refine g_iload dL_law_263 rfl ?_
      refine g_iconst (x := 3) dL_law_265 (by decide) ?_
      refine e_iadd (v := ((i + 3 : Nat) : Int)) dL_law_266 (gadd_nat9 (k := 3) (by omega)) ?_
      refine c_ialdS (x := S.1 0 (i + 3)) dL_law_267 (by omega) (by omega) (h2 (i + 3)) ?_
      refine g_Vi3 dL_law_268 (sL_law_268 l) rfl (by show 74 < 87; omega) (Nat.le_of_ble_eq_true rfl) m1 ?_
      refine e_istore (loc' := [gR (some 0), gR (some 1), gR (some 74), gR (some 86), gI (i : Int), gI (0), gI (0)]) dL_law_271 (by decide) rfl ?_
      refine g_aload_n dL_law_273 rfl rfl ?_
      refine g_Vi0 dL_law_274 (sL_law_274 l) rfl (by show 74 < 87; omega) (Nat.le_of_ble_eq_true rfl) (gMi_to 0 (cX6_thrown l) m3) ?_
      refine g_iload dL_law_277 rfl ?_
      refine g_icmp_eq (tgt := 284) dL_law_279 (by decide) (fun c279 => ?_) (fun c279 => absurd c279 (by omega))
      refine g_iload dL_law_284 rfl ?_
      refine g_if_ne (tgt := 308) dL_law_286 (by decide) (fun c286 => absurd c286 (by omega)) (fun c286 => ?_)
      refine g_aload_n dL_law_289 rfl rfl ?_
      refine g_iconst (x := 0) dL_law_290 (by decide) ?_
      refine m_lald (x := 0) dL_law_291 rfl ((m4 0).trans up_same) ?_
      refine g_iload dL_law_292 rfl ?_
      refine g_if_eq (tgt := 301) dL_law_294 (by decide) (fun c294 => ?_) (fun c294 => absurd c294 (by omega))
      refine g_lconst (x := 0) dL_law_301 (by decide) ?_
      refine g_lcmp dL_law_302 ?_
      refine g_if_eq (tgt := 308) dL_law_303 (by decide) (fun c303 => ?_) (fun c303 => absurd gcmp_self c303)
      refine g_goto (tgt := 929) dL_law_308 (by decide) ?_
      exact kk S' M' _ _ h2 m2
    · refine g_aload_n dL_law_224 rfl rfl ?_
      refine g_aload_n dL_law_225 rfl rfl ?_
      refine g_iload dL_law_226 rfl ?_
      refine g_iconst (x := 1) dL_law_228 (by decide) ?_
      refine e_iadd (v := ((i + 1 : Nat) : Int)) dL_law_229 (gadd_nat9 (k := 1) (by omega)) ?_
      refine c_ialdS (x := S.1 0 (i + 1)) dL_law_230 (by omega) (by omega) rfl ?_
      refine g_aload_n dL_law_231 rfl rfl ?_
      refine g_iload dL_law_232 rfl ?_
      refine g_iconst (x := 2) dL_law_234 (by decide) ?_
      refine e_iadd (v := ((i + 2 : Nat) : Int)) dL_law_235 (gadd_nat9 (k := 2) (by omega)) ?_
      refine c_ialdS (x := S.1 0 (i + 2)) dL_law_236 (by omega) (by omega) rfl ?_
      refine g_aload_n dL_law_237 rfl rfl ?_
      refine g_iload dL_law_238 rfl ?_
      refine g_iconst (x := 3) dL_law_240 (by decide) ?_
      refine e_iadd (v := ((i + 3 : Nat) : Int)) dL_law_241 (gadd_nat9 (k := 3) (by omega)) ?_
      refine c_ialdS (x := S.1 0 (i + 3)) dL_law_242 (by omega) (by omega) rfl ?_
      refine g_aload_n dL_law_243 rfl rfl ?_
      refine g_SH (as := [gR (some 1), gI (S.1 0 (i + 1)), gI (S.1 0 (i + 2)), gI (S.1 0 (i + 3)), gR (some 86)]) (v := 0) dL_law_244 (sL_law_244 l) rfl ⟨by decide, by decide⟩ tL_gauge (Nat.le_of_ble_eq_true rfl) (wL_gauge_1 l (h1 M) (by omega)) ?_
      refine e_istore (loc' := [gR (some 0), gR (some 1), gR (some 74), gR (some 86), gI (i : Int), gI (0), e6]) dL_law_247 (by decide) rfl ?_
      refine g_aload_n dL_law_249 rfl rfl ?_
      refine g_aload_n dL_law_250 rfl rfl ?_
      refine g_iload dL_law_251 rfl ?_
      refine g_iconst (x := 1) dL_law_253 (by decide) ?_
      refine e_iadd (v := ((i + 1 : Nat) : Int)) dL_law_254 (gadd_nat9 (k := 1) (by omega)) ?_
      refine c_ialdS (x := S.1 0 (i + 1)) dL_law_255 (by omega) (by omega) (h2 (i + 1)) ?_
      refine g_aload_n dL_law_256 rfl rfl ?_
      refine g_iload dL_law_257 rfl ?_
      refine g_iconst (x := 2) dL_law_259 (by decide) ?_
      refine e_iadd (v := ((i + 2 : Nat) : Int)) dL_law_260 (gadd_nat9 (k := 2) (by omega)) ?_
      refine c_ialdS (x := S.1 0 (i + 2)) dL_law_261 (by omega) (by omega) (h2 (i + 2)) ?_
      refine g_aload_n dL_law_262 rfl rfl ?_
      refine g_iload dL_law_263 rfl ?_
      refine g_iconst (x := 3) dL_law_265 (by decide) ?_
      refine e_iadd (v := ((i + 3 : Nat) : Int)) dL_law_266 (gadd_nat9 (k := 3) (by omega)) ?_
      refine c_ialdS (x := S.1 0 (i + 3)) dL_law_267 (by omega) (by omega) (h2 (i + 3)) ?_
      refine g_Vi3 dL_law_268 (sL_law_268 l) rfl (by show 74 < 87; omega) (Nat.le_of_ble_eq_true rfl) m1 ?_
      refine e_istore (loc' := [gR (some 0), gR (some 1), gR (some 74), gR (some 86), gI (i : Int), gI (0), gI (1)]) dL_law_271 (by decide) rfl ?_
      refine g_aload_n dL_law_273 rfl rfl ?_
      refine g_Vi0 dL_law_274 (sL_law_274 l) rfl (by show 74 < 87; omega) (Nat.le_of_ble_eq_true rfl) (gMi_to 0 (cX6_thrown l) m3) ?_
      refine g_iload dL_law_277 rfl ?_
      refine g_icmp_eq (tgt := 284) dL_law_279 (by decide) (fun c279 => ?_) (fun c279 => absurd c279 (by omega))
      refine g_iload dL_law_284 rfl ?_
      refine g_if_ne (tgt := 308) dL_law_286 (by decide) (fun c286 => absurd c286 (by omega)) (fun c286 => ?_)
      refine g_aload_n dL_law_289 rfl rfl ?_
      refine g_iconst (x := 0) dL_law_290 (by decide) ?_
      refine m_lald (x := 1) dL_law_291 rfl ((m4 0).trans up_same) ?_
      refine g_iload dL_law_292 rfl ?_
      refine g_if_eq (tgt := 301) dL_law_294 (by decide) (fun c294 => absurd c294 (by omega)) (fun c294 => ?_)
      refine g_lconst (x := 1) dL_law_297 (by decide) ?_
      refine g_goto (tgt := 302) dL_law_298 (by decide) ?_
      refine g_lcmp dL_law_302 ?_
      refine g_if_eq (tgt := 308) dL_law_303 (by decide) (fun c303 => ?_) (fun c303 => absurd gcmp_self c303)
      refine g_goto (tgt := 929) dL_law_308 (by decide) ?_
      exact kk S' M' _ _ h2 m2
  · refine g_aload_n dL_law_224 rfl rfl ?_
    refine g_aload_n dL_law_225 rfl rfl ?_
    refine g_iload dL_law_226 rfl ?_
    refine g_iconst (x := 1) dL_law_228 (by decide) ?_
    refine e_iadd (v := ((i + 1 : Nat) : Int)) dL_law_229 (gadd_nat9 (k := 1) (by omega)) ?_
    refine c_ialdS (x := S.1 0 (i + 1)) dL_law_230 (by omega) (by omega) rfl ?_
    refine g_aload_n dL_law_231 rfl rfl ?_
    refine g_iload dL_law_232 rfl ?_
    refine g_iconst (x := 2) dL_law_234 (by decide) ?_
    refine e_iadd (v := ((i + 2 : Nat) : Int)) dL_law_235 (gadd_nat9 (k := 2) (by omega)) ?_
    refine c_ialdS (x := S.1 0 (i + 2)) dL_law_236 (by omega) (by omega) rfl ?_
    refine g_aload_n dL_law_237 rfl rfl ?_
    refine g_iload dL_law_238 rfl ?_
    refine g_iconst (x := 3) dL_law_240 (by decide) ?_
    refine e_iadd (v := ((i + 3 : Nat) : Int)) dL_law_241 (gadd_nat9 (k := 3) (by omega)) ?_
    refine c_ialdS (x := S.1 0 (i + 3)) dL_law_242 (by omega) (by omega) rfl ?_
    refine g_aload_n dL_law_243 rfl rfl ?_
    refine g_SH (as := [gR (some 1), gI (S.1 0 (i + 1)), gI (S.1 0 (i + 2)), gI (S.1 0 (i + 3)), gR (some 86)]) (v := 1) dL_law_244 (sL_law_244 l) rfl ⟨by decide, by decide⟩ tL_gauge (Nat.le_of_ble_eq_true rfl) (wL_gauge_x l (h1 M)) ?_
    refine e_istore (loc' := [gR (some 0), gR (some 1), gR (some 74), gR (some 86), gI (i : Int), gI (1), e6]) dL_law_247 (by decide) rfl ?_
    refine g_aload_n dL_law_249 rfl rfl ?_
    refine g_aload_n dL_law_250 rfl rfl ?_
    refine g_iload dL_law_251 rfl ?_
    refine g_iconst (x := 1) dL_law_253 (by decide) ?_
    refine e_iadd (v := ((i + 1 : Nat) : Int)) dL_law_254 (gadd_nat9 (k := 1) (by omega)) ?_
    refine c_ialdS (x := S.1 0 (i + 1)) dL_law_255 (by omega) (by omega) rfl ?_
    refine g_aload_n dL_law_256 rfl rfl ?_
    refine g_iload dL_law_257 rfl ?_
    refine g_iconst (x := 2) dL_law_259 (by decide) ?_
    refine e_iadd (v := ((i + 2 : Nat) : Int)) dL_law_260 (gadd_nat9 (k := 2) (by omega)) ?_
    refine c_ialdS (x := S.1 0 (i + 2)) dL_law_261 (by omega) (by omega) rfl ?_
    refine g_aload_n dL_law_262 rfl rfl ?_
    refine g_iload dL_law_263 rfl ?_
    refine g_iconst (x := 3) dL_law_265 (by decide) ?_
    refine e_iadd (v := ((i + 3 : Nat) : Int)) dL_law_266 (gadd_nat9 (k := 3) (by omega)) ?_
    refine c_ialdS (x := S.1 0 (i + 3)) dL_law_267 (by omega) (by omega) rfl ?_
    refine g_Vi3 dL_law_268 (sL_law_268 l) rfl (by show 74 < 87; omega) (Nat.le_of_ble_eq_true rfl) (h3 M) ?_
    refine e_istore (loc' := [gR (some 0), gR (some 1), gR (some 74), gR (some 86), gI (i : Int), gI (1), gI (0)]) dL_law_271 (by decide) rfl ?_
    refine g_aload_n dL_law_273 rfl rfl ?_
    refine g_Vi0 dL_law_274 (sL_law_274 l) rfl (by show 74 < 87; omega) (Nat.le_of_ble_eq_true rfl) (gMi_to 1 (cX6_thrown l) up_same) ?_
    refine g_iload dL_law_277 rfl ?_
    refine g_icmp_eq (tgt := 284) dL_law_279 (by decide) (fun c279 => ?_) (fun c279 => absurd c279 (by omega))
    refine g_iload dL_law_284 rfl ?_
    refine g_if_ne (tgt := 308) dL_law_286 (by decide) (fun c286 => ?_) (fun c286 => absurd c286 (by omega))
    refine g_goto (tgt := 929) dL_law_308 (by decide) ?_
    exact kk S (up M 74 0 1) _ _ K0.rfl (rel_out h (fun a d _ _ => up_cell (by omega)) (fun d e => up_slot e)).mono
set_option maxHeartbeats 2000000 in
theorem la_wind (l : Launch) {L t i mc ms : Nat} {S : sT} {M : Nat → Nat → Int} {Q : Option (Option gV) → gH → Prop} (h : Rel t S M) (ht : t ≤ 1000) (hi : i + 4 ≤ L) (hL : L < 100000) {e5 e6 : gV} (kk : ∀ (S' : sT) (M' : Nat → Nat → Int) (e5 e6 : gV), K0 S.1 S'.1 → Rel (t + 1) S' M' → G (gπ l) mL_law 929 [gR (some 0), gR (some 1), gR (some 74), gR (some 86), gI (i : Int), e5, e6] [] (hS L S' M') mc ms Q) : G (gπ l) mL_law 311 [gR (some 0), gR (some 1), gR (some 74), gR (some 86), gI (i : Int), e5, e6] [] (hS L S M) (mc + 1) (ms + 6) Q := by
  rcases q_wind l (L := L) h ht (v := S.1 0 (i + 1)) with ⟨S', h1, h2, h3⟩ | ⟨h1, h3⟩
  · obtain ⟨M', m1, m2, m3, m4⟩ := h3 M h
    refine g_aload_n dL_law_311 rfl rfl ?_
    refine g_aload_n dL_law_312 rfl rfl ?_
    refine g_iload dL_law_313 rfl ?_
    refine g_iconst (x := 1) dL_law_315 (by decide) ?_
    refine e_iadd (v := ((i + 1 : Nat) : Int)) dL_law_316 (gadd_nat9 (k := 1) (by omega)) ?_
    refine c_ialdS (x := S.1 0 (i + 1)) dL_law_317 (by omega) (by omega) rfl ?_
    refine g_SH (as := [gR (some 1), gI (S.1 0 (i + 1))]) (v := 0) dL_law_318 (sL_law_318 l) rfl ⟨by decide, by decide⟩ tL_wind (Nat.le_of_ble_eq_true rfl) (wL_wind_1 l (h1 M)) ?_
    refine e_istore (loc' := [gR (some 0), gR (some 1), gR (some 74), gR (some 86), gI (i : Int), gI (0), e6]) dL_law_321 (by decide) rfl ?_
    refine g_aload_n dL_law_323 rfl rfl ?_
    refine g_aload_n dL_law_324 rfl rfl ?_
    refine g_iload dL_law_325 rfl ?_
    refine g_iconst (x := 1) dL_law_327 (by decide) ?_
    refine e_iadd (v := ((i + 1 : Nat) : Int)) dL_law_328 (gadd_nat9 (k := 1) (by omega)) ?_
    refine c_ialdS (x := S.1 0 (i + 1)) dL_law_329 (by omega) (by omega) (h2 (i + 1)) ?_
    refine g_Vv1 dL_law_330 (sL_law_330 l) rfl (by show 74 < 87; omega) (Nat.le_of_ble_eq_true rfl) m1 ?_
    refine g_aload_n dL_law_333 rfl rfl ?_
    refine g_Vi0 dL_law_334 (sL_law_334 l) rfl (by show 74 < 87; omega) (Nat.le_of_ble_eq_true rfl) (gMi_to 0 (cX6_thrown l) m3) ?_
    refine g_iload dL_law_337 rfl ?_
    refine g_icmp_eq (tgt := 344) dL_law_339 (by decide) (fun c339 => ?_) (fun c339 => absurd c339 (by omega))
    refine g_goto (tgt := 929) dL_law_344 (by decide) ?_
    exact kk S' M' _ _ h2 m2
  · refine g_aload_n dL_law_311 rfl rfl ?_
    refine g_aload_n dL_law_312 rfl rfl ?_
    refine g_iload dL_law_313 rfl ?_
    refine g_iconst (x := 1) dL_law_315 (by decide) ?_
    refine e_iadd (v := ((i + 1 : Nat) : Int)) dL_law_316 (gadd_nat9 (k := 1) (by omega)) ?_
    refine c_ialdS (x := S.1 0 (i + 1)) dL_law_317 (by omega) (by omega) rfl ?_
    refine g_SH (as := [gR (some 1), gI (S.1 0 (i + 1))]) (v := 1) dL_law_318 (sL_law_318 l) rfl ⟨by decide, by decide⟩ tL_wind (Nat.le_of_ble_eq_true rfl) (wL_wind_x l (h1 M)) ?_
    refine e_istore (loc' := [gR (some 0), gR (some 1), gR (some 74), gR (some 86), gI (i : Int), gI (1), e6]) dL_law_321 (by decide) rfl ?_
    refine g_aload_n dL_law_323 rfl rfl ?_
    refine g_aload_n dL_law_324 rfl rfl ?_
    refine g_iload dL_law_325 rfl ?_
    refine g_iconst (x := 1) dL_law_327 (by decide) ?_
    refine e_iadd (v := ((i + 1 : Nat) : Int)) dL_law_328 (gadd_nat9 (k := 1) (by omega)) ?_
    refine c_ialdS (x := S.1 0 (i + 1)) dL_law_329 (by omega) (by omega) rfl ?_
    refine g_Vv1 dL_law_330 (sL_law_330 l) rfl (by show 74 < 87; omega) (Nat.le_of_ble_eq_true rfl) (h3 M) ?_
    refine g_aload_n dL_law_333 rfl rfl ?_
    refine g_Vi0 dL_law_334 (sL_law_334 l) rfl (by show 74 < 87; omega) (Nat.le_of_ble_eq_true rfl) (gMi_to 1 (cX6_thrown l) up_same) ?_
    refine g_iload dL_law_337 rfl ?_
    refine g_icmp_eq (tgt := 344) dL_law_339 (by decide) (fun c339 => ?_) (fun c339 => absurd c339 (by omega))
    refine g_goto (tgt := 929) dL_law_344 (by decide) ?_
    exact kk S (up M 74 0 1) _ _ K0.rfl (rel_out h (fun a d _ _ => up_cell (by omega)) (fun d e => up_slot e)).mono
set_option maxHeartbeats 2000000 in
theorem la_drive (l : Launch) {L t i mc ms : Nat} {S : sT} {M : Nat → Nat → Int} {Q : Option (Option gV) → gH → Prop} (h : Rel t S M) (ht : t ≤ 1000) (hi : i + 4 ≤ L) (hL : L < 100000) {e5 e6 : gV} (kk : ∀ (S' : sT) (M' : Nat → Nat → Int) (e5 e6 : gV), K0 S.1 S'.1 → Rel (t + 1) S' M' → G (gπ l) mL_law 929 [gR (some 0), gR (some 1), gR (some 74), gR (some 86), gI (i : Int), e5, e6] [] (hS L S' M') mc ms Q) : G (gπ l) mL_law 347 [gR (some 0), gR (some 1), gR (some 74), gR (some 86), gI (i : Int), e5, e6] [] (hS L S M) (mc + 1) (ms + 6) Q := by
  rcases q_drive l (L := L) h (v := S.1 0 (i + 1)) with ⟨S', x, h1, h2, hb, h3⟩ | ⟨h1, h3⟩
  · obtain ⟨M', m1, m2, m3, m4⟩ := h3 (up M 86 0 x) (rel_out h (fun a d _ _ => up_cell (by omega)) (fun d _ => up_cell (by omega)))
    have hx := hb rfl
    rcases hx with rfl | rfl
    · refine g_aload_n dL_law_347 rfl rfl ?_
      refine g_aload_n dL_law_348 rfl rfl ?_
      refine g_iload dL_law_349 rfl ?_
      refine g_iconst (x := 1) dL_law_351 (by decide) ?_
      refine e_iadd (v := ((i + 1 : Nat) : Int)) dL_law_352 (gadd_nat9 (k := 1) (by omega)) ?_
      refine c_ialdS (x := S.1 0 (i + 1)) dL_law_353 (by omega) (by omega) rfl ?_
      refine g_aload_n dL_law_354 rfl rfl ?_
      refine g_SH (as := [gR (some 1), gI (S.1 0 (i + 1)), gR (some 86)]) (v := 0) dL_law_355 (sL_law_355 l) rfl ⟨by decide, by decide⟩ tL_drive (Nat.le_of_ble_eq_true rfl) (wL_drive_1 l (h1 M) (by omega)) ?_
      refine e_istore (loc' := [gR (some 0), gR (some 1), gR (some 74), gR (some 86), gI (i : Int), gI (0), e6]) dL_law_358 (by decide) rfl ?_
      refine g_aload_n dL_law_360 rfl rfl ?_
      refine g_aload_n dL_law_361 rfl rfl ?_
      refine g_iload dL_law_362 rfl ?_
      refine g_iconst (x := 1) dL_law_364 (by decide) ?_
      refine e_iadd (v := ((i + 1 : Nat) : Int)) dL_law_365 (gadd_nat9 (k := 1) (by omega)) ?_
      refine c_ialdS (x := S.1 0 (i + 1)) dL_law_366 (by omega) (by omega) (h2 (i + 1)) ?_
      refine g_Vi1 dL_law_367 (sL_law_367 l) rfl (by show 74 < 87; omega) (Nat.le_of_ble_eq_true rfl) m1 ?_
      refine e_istore (loc' := [gR (some 0), gR (some 1), gR (some 74), gR (some 86), gI (i : Int), gI (0), gI (0)]) dL_law_370 (by decide) rfl ?_
      refine g_aload_n dL_law_372 rfl rfl ?_
      refine g_Vi0 dL_law_373 (sL_law_373 l) rfl (by show 74 < 87; omega) (Nat.le_of_ble_eq_true rfl) (gMi_to 0 (cX6_thrown l) m3) ?_
      refine g_iload dL_law_376 rfl ?_
      refine g_icmp_eq (tgt := 383) dL_law_378 (by decide) (fun c378 => ?_) (fun c378 => absurd c378 (by omega))
      refine g_iload dL_law_383 rfl ?_
      refine g_if_ne (tgt := 407) dL_law_385 (by decide) (fun c385 => absurd c385 (by omega)) (fun c385 => ?_)
      refine g_aload_n dL_law_388 rfl rfl ?_
      refine g_iconst (x := 0) dL_law_389 (by decide) ?_
      refine m_lald (x := 0) dL_law_390 rfl ((m4 0).trans up_same) ?_
      refine g_iload dL_law_391 rfl ?_
      refine g_if_eq (tgt := 400) dL_law_393 (by decide) (fun c393 => ?_) (fun c393 => absurd c393 (by omega))
      refine g_lconst (x := 0) dL_law_400 (by decide) ?_
      refine g_lcmp dL_law_401 ?_
      refine g_if_eq (tgt := 407) dL_law_402 (by decide) (fun c402 => ?_) (fun c402 => absurd gcmp_self c402)
      refine g_goto (tgt := 929) dL_law_407 (by decide) ?_
      exact kk S' M' _ _ h2 m2
    · refine g_aload_n dL_law_347 rfl rfl ?_
      refine g_aload_n dL_law_348 rfl rfl ?_
      refine g_iload dL_law_349 rfl ?_
      refine g_iconst (x := 1) dL_law_351 (by decide) ?_
      refine e_iadd (v := ((i + 1 : Nat) : Int)) dL_law_352 (gadd_nat9 (k := 1) (by omega)) ?_
      refine c_ialdS (x := S.1 0 (i + 1)) dL_law_353 (by omega) (by omega) rfl ?_
      refine g_aload_n dL_law_354 rfl rfl ?_
      refine g_SH (as := [gR (some 1), gI (S.1 0 (i + 1)), gR (some 86)]) (v := 0) dL_law_355 (sL_law_355 l) rfl ⟨by decide, by decide⟩ tL_drive (Nat.le_of_ble_eq_true rfl) (wL_drive_1 l (h1 M) (by omega)) ?_
      refine e_istore (loc' := [gR (some 0), gR (some 1), gR (some 74), gR (some 86), gI (i : Int), gI (0), e6]) dL_law_358 (by decide) rfl ?_
      refine g_aload_n dL_law_360 rfl rfl ?_
      refine g_aload_n dL_law_361 rfl rfl ?_
      refine g_iload dL_law_362 rfl ?_
      refine g_iconst (x := 1) dL_law_364 (by decide) ?_
      refine e_iadd (v := ((i + 1 : Nat) : Int)) dL_law_365 (gadd_nat9 (k := 1) (by omega)) ?_
      refine c_ialdS (x := S.1 0 (i + 1)) dL_law_366 (by omega) (by omega) (h2 (i + 1)) ?_
      refine g_Vi1 dL_law_367 (sL_law_367 l) rfl (by show 74 < 87; omega) (Nat.le_of_ble_eq_true rfl) m1 ?_
      refine e_istore (loc' := [gR (some 0), gR (some 1), gR (some 74), gR (some 86), gI (i : Int), gI (0), gI (1)]) dL_law_370 (by decide) rfl ?_
      refine g_aload_n dL_law_372 rfl rfl ?_
      refine g_Vi0 dL_law_373 (sL_law_373 l) rfl (by show 74 < 87; omega) (Nat.le_of_ble_eq_true rfl) (gMi_to 0 (cX6_thrown l) m3) ?_
      refine g_iload dL_law_376 rfl ?_
      refine g_icmp_eq (tgt := 383) dL_law_378 (by decide) (fun c378 => ?_) (fun c378 => absurd c378 (by omega))
      refine g_iload dL_law_383 rfl ?_
      refine g_if_ne (tgt := 407) dL_law_385 (by decide) (fun c385 => absurd c385 (by omega)) (fun c385 => ?_)
      refine g_aload_n dL_law_388 rfl rfl ?_
      refine g_iconst (x := 0) dL_law_389 (by decide) ?_
      refine m_lald (x := 1) dL_law_390 rfl ((m4 0).trans up_same) ?_
      refine g_iload dL_law_391 rfl ?_
      refine g_if_eq (tgt := 400) dL_law_393 (by decide) (fun c393 => absurd c393 (by omega)) (fun c393 => ?_)
      refine g_lconst (x := 1) dL_law_396 (by decide) ?_
      refine g_goto (tgt := 401) dL_law_397 (by decide) ?_
      refine g_lcmp dL_law_401 ?_
      refine g_if_eq (tgt := 407) dL_law_402 (by decide) (fun c402 => ?_) (fun c402 => absurd gcmp_self c402)
      refine g_goto (tgt := 929) dL_law_407 (by decide) ?_
      exact kk S' M' _ _ h2 m2
  · refine g_aload_n dL_law_347 rfl rfl ?_
    refine g_aload_n dL_law_348 rfl rfl ?_
    refine g_iload dL_law_349 rfl ?_
    refine g_iconst (x := 1) dL_law_351 (by decide) ?_
    refine e_iadd (v := ((i + 1 : Nat) : Int)) dL_law_352 (gadd_nat9 (k := 1) (by omega)) ?_
    refine c_ialdS (x := S.1 0 (i + 1)) dL_law_353 (by omega) (by omega) rfl ?_
    refine g_aload_n dL_law_354 rfl rfl ?_
    refine g_SH (as := [gR (some 1), gI (S.1 0 (i + 1)), gR (some 86)]) (v := 1) dL_law_355 (sL_law_355 l) rfl ⟨by decide, by decide⟩ tL_drive (Nat.le_of_ble_eq_true rfl) (wL_drive_x l (h1 M)) ?_
    refine e_istore (loc' := [gR (some 0), gR (some 1), gR (some 74), gR (some 86), gI (i : Int), gI (1), e6]) dL_law_358 (by decide) rfl ?_
    refine g_aload_n dL_law_360 rfl rfl ?_
    refine g_aload_n dL_law_361 rfl rfl ?_
    refine g_iload dL_law_362 rfl ?_
    refine g_iconst (x := 1) dL_law_364 (by decide) ?_
    refine e_iadd (v := ((i + 1 : Nat) : Int)) dL_law_365 (gadd_nat9 (k := 1) (by omega)) ?_
    refine c_ialdS (x := S.1 0 (i + 1)) dL_law_366 (by omega) (by omega) rfl ?_
    refine g_Vi1 dL_law_367 (sL_law_367 l) rfl (by show 74 < 87; omega) (Nat.le_of_ble_eq_true rfl) (h3 M) ?_
    refine e_istore (loc' := [gR (some 0), gR (some 1), gR (some 74), gR (some 86), gI (i : Int), gI (1), gI (0)]) dL_law_370 (by decide) rfl ?_
    refine g_aload_n dL_law_372 rfl rfl ?_
    refine g_Vi0 dL_law_373 (sL_law_373 l) rfl (by show 74 < 87; omega) (Nat.le_of_ble_eq_true rfl) (gMi_to 1 (cX6_thrown l) up_same) ?_
    refine g_iload dL_law_376 rfl ?_
    refine g_icmp_eq (tgt := 383) dL_law_378 (by decide) (fun c378 => ?_) (fun c378 => absurd c378 (by omega))
    refine g_iload dL_law_383 rfl ?_
    refine g_if_ne (tgt := 407) dL_law_385 (by decide) (fun c385 => ?_) (fun c385 => absurd c385 (by omega))
    refine g_goto (tgt := 929) dL_law_407 (by decide) ?_
    exact kk S (up M 74 0 1) _ _ K0.rfl (rel_out h (fun a d _ _ => up_cell (by omega)) (fun d e => up_slot e)).mono
set_option maxHeartbeats 2000000 in
theorem la_bring (l : Launch) {L t i mc ms : Nat} {S : sT} {M : Nat → Nat → Int} {Q : Option (Option gV) → gH → Prop} (h : Rel t S M) (ht : t ≤ 1000) (hi : i + 4 ≤ L) (hL : L < 100000) {e5 e6 : gV} (kk : ∀ (S' : sT) (M' : Nat → Nat → Int) (e5 e6 : gV), K0 S.1 S'.1 → Rel (t + 1) S' M' → G (gπ l) mL_law 929 [gR (some 0), gR (some 1), gR (some 74), gR (some 86), gI (i : Int), e5, e6] [] (hS L S' M') mc ms Q) : G (gπ l) mL_law 410 [gR (some 0), gR (some 1), gR (some 74), gR (some 86), gI (i : Int), e5, e6] [] (hS L S M) (mc + 1) (ms + 6) Q := by
  rcases q_bring l (L := L) h ht (v := S.1 0 (i + 1)) with ⟨S', x, h1, h2, hb, h3⟩ | ⟨h1, h3⟩
  · obtain ⟨M', m1, m2, m3, m4⟩ := h3 (up M 86 0 x) (rel_out h (fun a d _ _ => up_cell (by omega)) (fun d _ => up_cell (by omega)))
    have hx := hb rfl
    rcases hx with rfl | rfl
    · refine g_aload_n dL_law_410 rfl rfl ?_
      refine g_aload_n dL_law_411 rfl rfl ?_
      refine g_iload dL_law_412 rfl ?_
      refine g_iconst (x := 1) dL_law_414 (by decide) ?_
      refine e_iadd (v := ((i + 1 : Nat) : Int)) dL_law_415 (gadd_nat9 (k := 1) (by omega)) ?_
      refine c_ialdS (x := S.1 0 (i + 1)) dL_law_416 (by omega) (by omega) rfl ?_
      refine g_aload_n dL_law_417 rfl rfl ?_
      refine g_SH (as := [gR (some 1), gI (S.1 0 (i + 1)), gR (some 86)]) (v := 0) dL_law_418 (sL_law_418 l) rfl ⟨by decide, by decide⟩ tL_bring (Nat.le_of_ble_eq_true rfl) (wL_bring_1 l (h1 M) (by omega)) ?_
      refine e_istore (loc' := [gR (some 0), gR (some 1), gR (some 74), gR (some 86), gI (i : Int), gI (0), e6]) dL_law_421 (by decide) rfl ?_
      refine g_aload_n dL_law_423 rfl rfl ?_
      refine g_aload_n dL_law_424 rfl rfl ?_
      refine g_iload dL_law_425 rfl ?_
      refine g_iconst (x := 1) dL_law_427 (by decide) ?_
      refine e_iadd (v := ((i + 1 : Nat) : Int)) dL_law_428 (gadd_nat9 (k := 1) (by omega)) ?_
      refine c_ialdS (x := S.1 0 (i + 1)) dL_law_429 (by omega) (by omega) (h2 (i + 1)) ?_
      refine g_Vi1 dL_law_430 (sL_law_430 l) rfl (by show 74 < 87; omega) (Nat.le_of_ble_eq_true rfl) m1 ?_
      refine e_istore (loc' := [gR (some 0), gR (some 1), gR (some 74), gR (some 86), gI (i : Int), gI (0), gI (0)]) dL_law_433 (by decide) rfl ?_
      refine g_aload_n dL_law_435 rfl rfl ?_
      refine g_Vi0 dL_law_436 (sL_law_436 l) rfl (by show 74 < 87; omega) (Nat.le_of_ble_eq_true rfl) (gMi_to 0 (cX6_thrown l) m3) ?_
      refine g_iload dL_law_439 rfl ?_
      refine g_icmp_eq (tgt := 446) dL_law_441 (by decide) (fun c441 => ?_) (fun c441 => absurd c441 (by omega))
      refine g_iload dL_law_446 rfl ?_
      refine g_if_ne (tgt := 470) dL_law_448 (by decide) (fun c448 => absurd c448 (by omega)) (fun c448 => ?_)
      refine g_aload_n dL_law_451 rfl rfl ?_
      refine g_iconst (x := 0) dL_law_452 (by decide) ?_
      refine m_lald (x := 0) dL_law_453 rfl ((m4 0).trans up_same) ?_
      refine g_iload dL_law_454 rfl ?_
      refine g_if_eq (tgt := 463) dL_law_456 (by decide) (fun c456 => ?_) (fun c456 => absurd c456 (by omega))
      refine g_lconst (x := 0) dL_law_463 (by decide) ?_
      refine g_lcmp dL_law_464 ?_
      refine g_if_eq (tgt := 470) dL_law_465 (by decide) (fun c465 => ?_) (fun c465 => absurd gcmp_self c465)
      refine g_goto (tgt := 929) dL_law_470 (by decide) ?_
      exact kk S' M' _ _ h2 m2
    · refine g_aload_n dL_law_410 rfl rfl ?_
      refine g_aload_n dL_law_411 rfl rfl ?_
      refine g_iload dL_law_412 rfl ?_
      refine g_iconst (x := 1) dL_law_414 (by decide) ?_
      refine e_iadd (v := ((i + 1 : Nat) : Int)) dL_law_415 (gadd_nat9 (k := 1) (by omega)) ?_
      refine c_ialdS (x := S.1 0 (i + 1)) dL_law_416 (by omega) (by omega) rfl ?_
      refine g_aload_n dL_law_417 rfl rfl ?_
      refine g_SH (as := [gR (some 1), gI (S.1 0 (i + 1)), gR (some 86)]) (v := 0) dL_law_418 (sL_law_418 l) rfl ⟨by decide, by decide⟩ tL_bring (Nat.le_of_ble_eq_true rfl) (wL_bring_1 l (h1 M) (by omega)) ?_
      refine e_istore (loc' := [gR (some 0), gR (some 1), gR (some 74), gR (some 86), gI (i : Int), gI (0), e6]) dL_law_421 (by decide) rfl ?_
      refine g_aload_n dL_law_423 rfl rfl ?_
      refine g_aload_n dL_law_424 rfl rfl ?_
      refine g_iload dL_law_425 rfl ?_
      refine g_iconst (x := 1) dL_law_427 (by decide) ?_
      refine e_iadd (v := ((i + 1 : Nat) : Int)) dL_law_428 (gadd_nat9 (k := 1) (by omega)) ?_
      refine c_ialdS (x := S.1 0 (i + 1)) dL_law_429 (by omega) (by omega) (h2 (i + 1)) ?_
      refine g_Vi1 dL_law_430 (sL_law_430 l) rfl (by show 74 < 87; omega) (Nat.le_of_ble_eq_true rfl) m1 ?_
      refine e_istore (loc' := [gR (some 0), gR (some 1), gR (some 74), gR (some 86), gI (i : Int), gI (0), gI (1)]) dL_law_433 (by decide) rfl ?_
      refine g_aload_n dL_law_435 rfl rfl ?_
      refine g_Vi0 dL_law_436 (sL_law_436 l) rfl (by show 74 < 87; omega) (Nat.le_of_ble_eq_true rfl) (gMi_to 0 (cX6_thrown l) m3) ?_
      refine g_iload dL_law_439 rfl ?_
      refine g_icmp_eq (tgt := 446) dL_law_441 (by decide) (fun c441 => ?_) (fun c441 => absurd c441 (by omega))
      refine g_iload dL_law_446 rfl ?_
      refine g_if_ne (tgt := 470) dL_law_448 (by decide) (fun c448 => absurd c448 (by omega)) (fun c448 => ?_)
      refine g_aload_n dL_law_451 rfl rfl ?_
      refine g_iconst (x := 0) dL_law_452 (by decide) ?_
      refine m_lald (x := 1) dL_law_453 rfl ((m4 0).trans up_same) ?_
      refine g_iload dL_law_454 rfl ?_
      refine g_if_eq (tgt := 463) dL_law_456 (by decide) (fun c456 => absurd c456 (by omega)) (fun c456 => ?_)
      refine g_lconst (x := 1) dL_law_459 (by decide) ?_
      refine g_goto (tgt := 464) dL_law_460 (by decide) ?_
      refine g_lcmp dL_law_464 ?_
      refine g_if_eq (tgt := 470) dL_law_465 (by decide) (fun c465 => ?_) (fun c465 => absurd gcmp_self c465)
      refine g_goto (tgt := 929) dL_law_470 (by decide) ?_
      exact kk S' M' _ _ h2 m2
  · refine g_aload_n dL_law_410 rfl rfl ?_
    refine g_aload_n dL_law_411 rfl rfl ?_
    refine g_iload dL_law_412 rfl ?_
    refine g_iconst (x := 1) dL_law_414 (by decide) ?_
    refine e_iadd (v := ((i + 1 : Nat) : Int)) dL_law_415 (gadd_nat9 (k := 1) (by omega)) ?_
    refine c_ialdS (x := S.1 0 (i + 1)) dL_law_416 (by omega) (by omega) rfl ?_
    refine g_aload_n dL_law_417 rfl rfl ?_
    refine g_SH (as := [gR (some 1), gI (S.1 0 (i + 1)), gR (some 86)]) (v := 1) dL_law_418 (sL_law_418 l) rfl ⟨by decide, by decide⟩ tL_bring (Nat.le_of_ble_eq_true rfl) (wL_bring_x l (h1 M)) ?_
    refine e_istore (loc' := [gR (some 0), gR (some 1), gR (some 74), gR (some 86), gI (i : Int), gI (1), e6]) dL_law_421 (by decide) rfl ?_
    refine g_aload_n dL_law_423 rfl rfl ?_
    refine g_aload_n dL_law_424 rfl rfl ?_
    refine g_iload dL_law_425 rfl ?_
    refine g_iconst (x := 1) dL_law_427 (by decide) ?_
    refine e_iadd (v := ((i + 1 : Nat) : Int)) dL_law_428 (gadd_nat9 (k := 1) (by omega)) ?_
    refine c_ialdS (x := S.1 0 (i + 1)) dL_law_429 (by omega) (by omega) rfl ?_
    refine g_Vi1 dL_law_430 (sL_law_430 l) rfl (by show 74 < 87; omega) (Nat.le_of_ble_eq_true rfl) (h3 M) ?_
    refine e_istore (loc' := [gR (some 0), gR (some 1), gR (some 74), gR (some 86), gI (i : Int), gI (1), gI (0)]) dL_law_433 (by decide) rfl ?_
    refine g_aload_n dL_law_435 rfl rfl ?_
    refine g_Vi0 dL_law_436 (sL_law_436 l) rfl (by show 74 < 87; omega) (Nat.le_of_ble_eq_true rfl) (gMi_to 1 (cX6_thrown l) up_same) ?_
    refine g_iload dL_law_439 rfl ?_
    refine g_icmp_eq (tgt := 446) dL_law_441 (by decide) (fun c441 => ?_) (fun c441 => absurd c441 (by omega))
    refine g_iload dL_law_446 rfl ?_
    refine g_if_ne (tgt := 470) dL_law_448 (by decide) (fun c448 => ?_) (fun c448 => absurd c448 (by omega))
    refine g_goto (tgt := 929) dL_law_470 (by decide) ?_
    exact kk S (up M 74 0 1) _ _ K0.rfl (rel_out h (fun a d _ _ => up_cell (by omega)) (fun d e => up_slot e)).mono
set_option maxHeartbeats 2000000 in
theorem la_putOn (l : Launch) {L t i mc ms : Nat} {S : sT} {M : Nat → Nat → Int} {Q : Option (Option gV) → gH → Prop} (h : Rel t S M) (ht : t ≤ 1000) (hi : i + 4 ≤ L) (hL : L < 100000) {e5 e6 : gV} (kk : ∀ (S' : sT) (M' : Nat → Nat → Int) (e5 e6 : gV), K0 S.1 S'.1 → Rel (t + 1) S' M' → G (gπ l) mL_law 929 [gR (some 0), gR (some 1), gR (some 74), gR (some 86), gI (i : Int), e5, e6] [] (hS L S' M') mc ms Q) : G (gπ l) mL_law 473 [gR (some 0), gR (some 1), gR (some 74), gR (some 86), gI (i : Int), e5, e6] [] (hS L S M) (mc + 1) (ms + 6) Q := by
  rcases q_putOn l (L := L) h (s := S.1 0 (i + 1)) (v := S.1 0 (i + 2)) with ⟨S', x, h1, h2, hb, h3⟩ | ⟨h1, h3⟩
  · obtain ⟨M', m1, m2, m3, m4⟩ := h3 (up M 86 0 x) (rel_out h (fun a d _ _ => up_cell (by omega)) (fun d _ => up_cell (by omega)))
    have hx := hb rfl
    rcases hx with rfl | rfl
    · refine g_aload_n dL_law_473 rfl rfl ?_
      refine g_aload_n dL_law_474 rfl rfl ?_
      refine g_iload dL_law_475 rfl ?_
      refine g_iconst (x := 1) dL_law_477 (by decide) ?_
      refine e_iadd (v := ((i + 1 : Nat) : Int)) dL_law_478 (gadd_nat9 (k := 1) (by omega)) ?_
      refine c_ialdS (x := S.1 0 (i + 1)) dL_law_479 (by omega) (by omega) rfl ?_
      refine g_aload_n dL_law_480 rfl rfl ?_
      refine g_iload dL_law_481 rfl ?_
      refine g_iconst (x := 2) dL_law_483 (by decide) ?_
      refine e_iadd (v := ((i + 2 : Nat) : Int)) dL_law_484 (gadd_nat9 (k := 2) (by omega)) ?_
      refine c_ialdS (x := S.1 0 (i + 2)) dL_law_485 (by omega) (by omega) rfl ?_
      refine g_aload_n dL_law_486 rfl rfl ?_
      refine g_SH (as := [gR (some 1), gI (S.1 0 (i + 1)), gI (S.1 0 (i + 2)), gR (some 86)]) (v := 0) dL_law_487 (sL_law_487 l) rfl ⟨by decide, by decide⟩ tL_putOn (Nat.le_of_ble_eq_true rfl) (wL_putOn_1 l (h1 M) (by omega)) ?_
      refine e_istore (loc' := [gR (some 0), gR (some 1), gR (some 74), gR (some 86), gI (i : Int), gI (0), e6]) dL_law_490 (by decide) rfl ?_
      refine g_aload_n dL_law_492 rfl rfl ?_
      refine g_aload_n dL_law_493 rfl rfl ?_
      refine g_iload dL_law_494 rfl ?_
      refine g_iconst (x := 1) dL_law_496 (by decide) ?_
      refine e_iadd (v := ((i + 1 : Nat) : Int)) dL_law_497 (gadd_nat9 (k := 1) (by omega)) ?_
      refine c_ialdS (x := S.1 0 (i + 1)) dL_law_498 (by omega) (by omega) (h2 (i + 1)) ?_
      refine g_aload_n dL_law_499 rfl rfl ?_
      refine g_iload dL_law_500 rfl ?_
      refine g_iconst (x := 2) dL_law_502 (by decide) ?_
      refine e_iadd (v := ((i + 2 : Nat) : Int)) dL_law_503 (gadd_nat9 (k := 2) (by omega)) ?_
      refine c_ialdS (x := S.1 0 (i + 2)) dL_law_504 (by omega) (by omega) (h2 (i + 2)) ?_
      refine g_Vi2 dL_law_505 (sL_law_505 l) rfl (by show 74 < 87; omega) (Nat.le_of_ble_eq_true rfl) m1 ?_
      refine e_istore (loc' := [gR (some 0), gR (some 1), gR (some 74), gR (some 86), gI (i : Int), gI (0), gI (0)]) dL_law_508 (by decide) rfl ?_
      refine g_aload_n dL_law_510 rfl rfl ?_
      refine g_Vi0 dL_law_511 (sL_law_511 l) rfl (by show 74 < 87; omega) (Nat.le_of_ble_eq_true rfl) (gMi_to 0 (cX6_thrown l) m3) ?_
      refine g_iload dL_law_514 rfl ?_
      refine g_icmp_eq (tgt := 521) dL_law_516 (by decide) (fun c516 => ?_) (fun c516 => absurd c516 (by omega))
      refine g_iload dL_law_521 rfl ?_
      refine g_if_ne (tgt := 545) dL_law_523 (by decide) (fun c523 => absurd c523 (by omega)) (fun c523 => ?_)
      refine g_aload_n dL_law_526 rfl rfl ?_
      refine g_iconst (x := 0) dL_law_527 (by decide) ?_
      refine m_lald (x := 0) dL_law_528 rfl ((m4 0).trans up_same) ?_
      refine g_iload dL_law_529 rfl ?_
      refine g_if_eq (tgt := 538) dL_law_531 (by decide) (fun c531 => ?_) (fun c531 => absurd c531 (by omega))
      refine g_lconst (x := 0) dL_law_538 (by decide) ?_
      refine g_lcmp dL_law_539 ?_
      refine g_if_eq (tgt := 545) dL_law_540 (by decide) (fun c540 => ?_) (fun c540 => absurd gcmp_self c540)
      refine g_goto (tgt := 929) dL_law_545 (by decide) ?_
      exact kk S' M' _ _ h2 m2
    · refine g_aload_n dL_law_473 rfl rfl ?_
      refine g_aload_n dL_law_474 rfl rfl ?_
      refine g_iload dL_law_475 rfl ?_
      refine g_iconst (x := 1) dL_law_477 (by decide) ?_
      refine e_iadd (v := ((i + 1 : Nat) : Int)) dL_law_478 (gadd_nat9 (k := 1) (by omega)) ?_
      refine c_ialdS (x := S.1 0 (i + 1)) dL_law_479 (by omega) (by omega) rfl ?_
      refine g_aload_n dL_law_480 rfl rfl ?_
      refine g_iload dL_law_481 rfl ?_
      refine g_iconst (x := 2) dL_law_483 (by decide) ?_
      refine e_iadd (v := ((i + 2 : Nat) : Int)) dL_law_484 (gadd_nat9 (k := 2) (by omega)) ?_
      refine c_ialdS (x := S.1 0 (i + 2)) dL_law_485 (by omega) (by omega) rfl ?_
      refine g_aload_n dL_law_486 rfl rfl ?_
      refine g_SH (as := [gR (some 1), gI (S.1 0 (i + 1)), gI (S.1 0 (i + 2)), gR (some 86)]) (v := 0) dL_law_487 (sL_law_487 l) rfl ⟨by decide, by decide⟩ tL_putOn (Nat.le_of_ble_eq_true rfl) (wL_putOn_1 l (h1 M) (by omega)) ?_
      refine e_istore (loc' := [gR (some 0), gR (some 1), gR (some 74), gR (some 86), gI (i : Int), gI (0), e6]) dL_law_490 (by decide) rfl ?_
      refine g_aload_n dL_law_492 rfl rfl ?_
      refine g_aload_n dL_law_493 rfl rfl ?_
      refine g_iload dL_law_494 rfl ?_
      refine g_iconst (x := 1) dL_law_496 (by decide) ?_
      refine e_iadd (v := ((i + 1 : Nat) : Int)) dL_law_497 (gadd_nat9 (k := 1) (by omega)) ?_
      refine c_ialdS (x := S.1 0 (i + 1)) dL_law_498 (by omega) (by omega) (h2 (i + 1)) ?_
      refine g_aload_n dL_law_499 rfl rfl ?_
      refine g_iload dL_law_500 rfl ?_
      refine g_iconst (x := 2) dL_law_502 (by decide) ?_
      refine e_iadd (v := ((i + 2 : Nat) : Int)) dL_law_503 (gadd_nat9 (k := 2) (by omega)) ?_
      refine c_ialdS (x := S.1 0 (i + 2)) dL_law_504 (by omega) (by omega) (h2 (i + 2)) ?_
      refine g_Vi2 dL_law_505 (sL_law_505 l) rfl (by show 74 < 87; omega) (Nat.le_of_ble_eq_true rfl) m1 ?_
      refine e_istore (loc' := [gR (some 0), gR (some 1), gR (some 74), gR (some 86), gI (i : Int), gI (0), gI (1)]) dL_law_508 (by decide) rfl ?_
      refine g_aload_n dL_law_510 rfl rfl ?_
      refine g_Vi0 dL_law_511 (sL_law_511 l) rfl (by show 74 < 87; omega) (Nat.le_of_ble_eq_true rfl) (gMi_to 0 (cX6_thrown l) m3) ?_
      refine g_iload dL_law_514 rfl ?_
      refine g_icmp_eq (tgt := 521) dL_law_516 (by decide) (fun c516 => ?_) (fun c516 => absurd c516 (by omega))
      refine g_iload dL_law_521 rfl ?_
      refine g_if_ne (tgt := 545) dL_law_523 (by decide) (fun c523 => absurd c523 (by omega)) (fun c523 => ?_)
      refine g_aload_n dL_law_526 rfl rfl ?_
      refine g_iconst (x := 0) dL_law_527 (by decide) ?_
      refine m_lald (x := 1) dL_law_528 rfl ((m4 0).trans up_same) ?_
      refine g_iload dL_law_529 rfl ?_
      refine g_if_eq (tgt := 538) dL_law_531 (by decide) (fun c531 => absurd c531 (by omega)) (fun c531 => ?_)
      refine g_lconst (x := 1) dL_law_534 (by decide) ?_
      refine g_goto (tgt := 539) dL_law_535 (by decide) ?_
      refine g_lcmp dL_law_539 ?_
      refine g_if_eq (tgt := 545) dL_law_540 (by decide) (fun c540 => ?_) (fun c540 => absurd gcmp_self c540)
      refine g_goto (tgt := 929) dL_law_545 (by decide) ?_
      exact kk S' M' _ _ h2 m2
  · refine g_aload_n dL_law_473 rfl rfl ?_
    refine g_aload_n dL_law_474 rfl rfl ?_
    refine g_iload dL_law_475 rfl ?_
    refine g_iconst (x := 1) dL_law_477 (by decide) ?_
    refine e_iadd (v := ((i + 1 : Nat) : Int)) dL_law_478 (gadd_nat9 (k := 1) (by omega)) ?_
    refine c_ialdS (x := S.1 0 (i + 1)) dL_law_479 (by omega) (by omega) rfl ?_
    refine g_aload_n dL_law_480 rfl rfl ?_
    refine g_iload dL_law_481 rfl ?_
    refine g_iconst (x := 2) dL_law_483 (by decide) ?_
    refine e_iadd (v := ((i + 2 : Nat) : Int)) dL_law_484 (gadd_nat9 (k := 2) (by omega)) ?_
    refine c_ialdS (x := S.1 0 (i + 2)) dL_law_485 (by omega) (by omega) rfl ?_
    refine g_aload_n dL_law_486 rfl rfl ?_
    refine g_SH (as := [gR (some 1), gI (S.1 0 (i + 1)), gI (S.1 0 (i + 2)), gR (some 86)]) (v := 1) dL_law_487 (sL_law_487 l) rfl ⟨by decide, by decide⟩ tL_putOn (Nat.le_of_ble_eq_true rfl) (wL_putOn_x l (h1 M)) ?_
    refine e_istore (loc' := [gR (some 0), gR (some 1), gR (some 74), gR (some 86), gI (i : Int), gI (1), e6]) dL_law_490 (by decide) rfl ?_
    refine g_aload_n dL_law_492 rfl rfl ?_
    refine g_aload_n dL_law_493 rfl rfl ?_
    refine g_iload dL_law_494 rfl ?_
    refine g_iconst (x := 1) dL_law_496 (by decide) ?_
    refine e_iadd (v := ((i + 1 : Nat) : Int)) dL_law_497 (gadd_nat9 (k := 1) (by omega)) ?_
    refine c_ialdS (x := S.1 0 (i + 1)) dL_law_498 (by omega) (by omega) rfl ?_
    refine g_aload_n dL_law_499 rfl rfl ?_
    refine g_iload dL_law_500 rfl ?_
    refine g_iconst (x := 2) dL_law_502 (by decide) ?_
    refine e_iadd (v := ((i + 2 : Nat) : Int)) dL_law_503 (gadd_nat9 (k := 2) (by omega)) ?_
    refine c_ialdS (x := S.1 0 (i + 2)) dL_law_504 (by omega) (by omega) rfl ?_
    refine g_Vi2 dL_law_505 (sL_law_505 l) rfl (by show 74 < 87; omega) (Nat.le_of_ble_eq_true rfl) (h3 M) ?_
    refine e_istore (loc' := [gR (some 0), gR (some 1), gR (some 74), gR (some 86), gI (i : Int), gI (1), gI (0)]) dL_law_508 (by decide) rfl ?_
    refine g_aload_n dL_law_510 rfl rfl ?_
    refine g_Vi0 dL_law_511 (sL_law_511 l) rfl (by show 74 < 87; omega) (Nat.le_of_ble_eq_true rfl) (gMi_to 1 (cX6_thrown l) up_same) ?_
    refine g_iload dL_law_514 rfl ?_
    refine g_icmp_eq (tgt := 521) dL_law_516 (by decide) (fun c516 => ?_) (fun c516 => absurd c516 (by omega))
    refine g_iload dL_law_521 rfl ?_
    refine g_if_ne (tgt := 545) dL_law_523 (by decide) (fun c523 => ?_) (fun c523 => absurd c523 (by omega))
    refine g_goto (tgt := 929) dL_law_545 (by decide) ?_
    exact kk S (up M 74 0 1) _ _ K0.rfl (rel_out h (fun a d _ _ => up_cell (by omega)) (fun d e => up_slot e)).mono
set_option maxHeartbeats 2000000 in
theorem la_takeOff (l : Launch) {L t i mc ms : Nat} {S : sT} {M : Nat → Nat → Int} {Q : Option (Option gV) → gH → Prop} (h : Rel t S M) (ht : t ≤ 1000) (hi : i + 4 ≤ L) (hL : L < 100000) {e5 e6 : gV} (kk : ∀ (S' : sT) (M' : Nat → Nat → Int) (e5 e6 : gV), K0 S.1 S'.1 → Rel (t + 1) S' M' → G (gπ l) mL_law 929 [gR (some 0), gR (some 1), gR (some 74), gR (some 86), gI (i : Int), e5, e6] [] (hS L S' M') mc ms Q) : G (gπ l) mL_law 548 [gR (some 0), gR (some 1), gR (some 74), gR (some 86), gI (i : Int), e5, e6] [] (hS L S M) (mc + 1) (ms + 6) Q := by
  rcases q_takeOff l (L := L) h ht (s := S.1 0 (i + 1)) (v := S.1 0 (i + 2)) with ⟨S', x, h1, h2, hb, h3⟩ | ⟨h1, h3⟩
  · obtain ⟨M', m1, m2, m3, m4⟩ := h3 (up M 86 0 x) (rel_out h (fun a d _ _ => up_cell (by omega)) (fun d _ => up_cell (by omega)))
    have hx := hb rfl
    rcases hx with rfl | rfl
    · refine g_aload_n dL_law_548 rfl rfl ?_
      refine g_aload_n dL_law_549 rfl rfl ?_
      refine g_iload dL_law_550 rfl ?_
      refine g_iconst (x := 1) dL_law_552 (by decide) ?_
      refine e_iadd (v := ((i + 1 : Nat) : Int)) dL_law_553 (gadd_nat9 (k := 1) (by omega)) ?_
      refine c_ialdS (x := S.1 0 (i + 1)) dL_law_554 (by omega) (by omega) rfl ?_
      refine g_aload_n dL_law_555 rfl rfl ?_
      refine g_iload dL_law_556 rfl ?_
      refine g_iconst (x := 2) dL_law_558 (by decide) ?_
      refine e_iadd (v := ((i + 2 : Nat) : Int)) dL_law_559 (gadd_nat9 (k := 2) (by omega)) ?_
      refine c_ialdS (x := S.1 0 (i + 2)) dL_law_560 (by omega) (by omega) rfl ?_
      refine g_aload_n dL_law_561 rfl rfl ?_
      refine g_SH (as := [gR (some 1), gI (S.1 0 (i + 1)), gI (S.1 0 (i + 2)), gR (some 86)]) (v := 0) dL_law_562 (sL_law_562 l) rfl ⟨by decide, by decide⟩ tL_takeOff (Nat.le_of_ble_eq_true rfl) (wL_takeOff_1 l (h1 M) (by omega)) ?_
      refine e_istore (loc' := [gR (some 0), gR (some 1), gR (some 74), gR (some 86), gI (i : Int), gI (0), e6]) dL_law_565 (by decide) rfl ?_
      refine g_aload_n dL_law_567 rfl rfl ?_
      refine g_aload_n dL_law_568 rfl rfl ?_
      refine g_iload dL_law_569 rfl ?_
      refine g_iconst (x := 1) dL_law_571 (by decide) ?_
      refine e_iadd (v := ((i + 1 : Nat) : Int)) dL_law_572 (gadd_nat9 (k := 1) (by omega)) ?_
      refine c_ialdS (x := S.1 0 (i + 1)) dL_law_573 (by omega) (by omega) (h2 (i + 1)) ?_
      refine g_aload_n dL_law_574 rfl rfl ?_
      refine g_iload dL_law_575 rfl ?_
      refine g_iconst (x := 2) dL_law_577 (by decide) ?_
      refine e_iadd (v := ((i + 2 : Nat) : Int)) dL_law_578 (gadd_nat9 (k := 2) (by omega)) ?_
      refine c_ialdS (x := S.1 0 (i + 2)) dL_law_579 (by omega) (by omega) (h2 (i + 2)) ?_
      refine g_Vi2 dL_law_580 (sL_law_580 l) rfl (by show 74 < 87; omega) (Nat.le_of_ble_eq_true rfl) m1 ?_
      refine e_istore (loc' := [gR (some 0), gR (some 1), gR (some 74), gR (some 86), gI (i : Int), gI (0), gI (0)]) dL_law_583 (by decide) rfl ?_
      refine g_aload_n dL_law_585 rfl rfl ?_
      refine g_Vi0 dL_law_586 (sL_law_586 l) rfl (by show 74 < 87; omega) (Nat.le_of_ble_eq_true rfl) (gMi_to 0 (cX6_thrown l) m3) ?_
      refine g_iload dL_law_589 rfl ?_
      refine g_icmp_eq (tgt := 596) dL_law_591 (by decide) (fun c591 => ?_) (fun c591 => absurd c591 (by omega))
      refine g_iload dL_law_596 rfl ?_
      refine g_if_ne (tgt := 620) dL_law_598 (by decide) (fun c598 => absurd c598 (by omega)) (fun c598 => ?_)
      refine g_aload_n dL_law_601 rfl rfl ?_
      refine g_iconst (x := 0) dL_law_602 (by decide) ?_
      refine m_lald (x := 0) dL_law_603 rfl ((m4 0).trans up_same) ?_
      refine g_iload dL_law_604 rfl ?_
      refine g_if_eq (tgt := 613) dL_law_606 (by decide) (fun c606 => ?_) (fun c606 => absurd c606 (by omega))
      refine g_lconst (x := 0) dL_law_613 (by decide) ?_
      refine g_lcmp dL_law_614 ?_
      refine g_if_eq (tgt := 620) dL_law_615 (by decide) (fun c615 => ?_) (fun c615 => absurd gcmp_self c615)
      refine g_goto (tgt := 929) dL_law_620 (by decide) ?_
      exact kk S' M' _ _ h2 m2
    · refine g_aload_n dL_law_548 rfl rfl ?_
      refine g_aload_n dL_law_549 rfl rfl ?_
      refine g_iload dL_law_550 rfl ?_
      refine g_iconst (x := 1) dL_law_552 (by decide) ?_
      refine e_iadd (v := ((i + 1 : Nat) : Int)) dL_law_553 (gadd_nat9 (k := 1) (by omega)) ?_
      refine c_ialdS (x := S.1 0 (i + 1)) dL_law_554 (by omega) (by omega) rfl ?_
      refine g_aload_n dL_law_555 rfl rfl ?_
      refine g_iload dL_law_556 rfl ?_
      refine g_iconst (x := 2) dL_law_558 (by decide) ?_
      refine e_iadd (v := ((i + 2 : Nat) : Int)) dL_law_559 (gadd_nat9 (k := 2) (by omega)) ?_
      refine c_ialdS (x := S.1 0 (i + 2)) dL_law_560 (by omega) (by omega) rfl ?_
      refine g_aload_n dL_law_561 rfl rfl ?_
      refine g_SH (as := [gR (some 1), gI (S.1 0 (i + 1)), gI (S.1 0 (i + 2)), gR (some 86)]) (v := 0) dL_law_562 (sL_law_562 l) rfl ⟨by decide, by decide⟩ tL_takeOff (Nat.le_of_ble_eq_true rfl) (wL_takeOff_1 l (h1 M) (by omega)) ?_
      refine e_istore (loc' := [gR (some 0), gR (some 1), gR (some 74), gR (some 86), gI (i : Int), gI (0), e6]) dL_law_565 (by decide) rfl ?_
      refine g_aload_n dL_law_567 rfl rfl ?_
      refine g_aload_n dL_law_568 rfl rfl ?_
      refine g_iload dL_law_569 rfl ?_
      refine g_iconst (x := 1) dL_law_571 (by decide) ?_
      refine e_iadd (v := ((i + 1 : Nat) : Int)) dL_law_572 (gadd_nat9 (k := 1) (by omega)) ?_
      refine c_ialdS (x := S.1 0 (i + 1)) dL_law_573 (by omega) (by omega) (h2 (i + 1)) ?_
      refine g_aload_n dL_law_574 rfl rfl ?_
      refine g_iload dL_law_575 rfl ?_
      refine g_iconst (x := 2) dL_law_577 (by decide) ?_
      refine e_iadd (v := ((i + 2 : Nat) : Int)) dL_law_578 (gadd_nat9 (k := 2) (by omega)) ?_
      refine c_ialdS (x := S.1 0 (i + 2)) dL_law_579 (by omega) (by omega) (h2 (i + 2)) ?_
      refine g_Vi2 dL_law_580 (sL_law_580 l) rfl (by show 74 < 87; omega) (Nat.le_of_ble_eq_true rfl) m1 ?_
      refine e_istore (loc' := [gR (some 0), gR (some 1), gR (some 74), gR (some 86), gI (i : Int), gI (0), gI (1)]) dL_law_583 (by decide) rfl ?_
      refine g_aload_n dL_law_585 rfl rfl ?_
      refine g_Vi0 dL_law_586 (sL_law_586 l) rfl (by show 74 < 87; omega) (Nat.le_of_ble_eq_true rfl) (gMi_to 0 (cX6_thrown l) m3) ?_
      refine g_iload dL_law_589 rfl ?_
      refine g_icmp_eq (tgt := 596) dL_law_591 (by decide) (fun c591 => ?_) (fun c591 => absurd c591 (by omega))
      refine g_iload dL_law_596 rfl ?_
      refine g_if_ne (tgt := 620) dL_law_598 (by decide) (fun c598 => absurd c598 (by omega)) (fun c598 => ?_)
      refine g_aload_n dL_law_601 rfl rfl ?_
      refine g_iconst (x := 0) dL_law_602 (by decide) ?_
      refine m_lald (x := 1) dL_law_603 rfl ((m4 0).trans up_same) ?_
      refine g_iload dL_law_604 rfl ?_
      refine g_if_eq (tgt := 613) dL_law_606 (by decide) (fun c606 => absurd c606 (by omega)) (fun c606 => ?_)
      refine g_lconst (x := 1) dL_law_609 (by decide) ?_
      refine g_goto (tgt := 614) dL_law_610 (by decide) ?_
      refine g_lcmp dL_law_614 ?_
      refine g_if_eq (tgt := 620) dL_law_615 (by decide) (fun c615 => ?_) (fun c615 => absurd gcmp_self c615)
      refine g_goto (tgt := 929) dL_law_620 (by decide) ?_
      exact kk S' M' _ _ h2 m2
  · refine g_aload_n dL_law_548 rfl rfl ?_
    refine g_aload_n dL_law_549 rfl rfl ?_
    refine g_iload dL_law_550 rfl ?_
    refine g_iconst (x := 1) dL_law_552 (by decide) ?_
    refine e_iadd (v := ((i + 1 : Nat) : Int)) dL_law_553 (gadd_nat9 (k := 1) (by omega)) ?_
    refine c_ialdS (x := S.1 0 (i + 1)) dL_law_554 (by omega) (by omega) rfl ?_
    refine g_aload_n dL_law_555 rfl rfl ?_
    refine g_iload dL_law_556 rfl ?_
    refine g_iconst (x := 2) dL_law_558 (by decide) ?_
    refine e_iadd (v := ((i + 2 : Nat) : Int)) dL_law_559 (gadd_nat9 (k := 2) (by omega)) ?_
    refine c_ialdS (x := S.1 0 (i + 2)) dL_law_560 (by omega) (by omega) rfl ?_
    refine g_aload_n dL_law_561 rfl rfl ?_
    refine g_SH (as := [gR (some 1), gI (S.1 0 (i + 1)), gI (S.1 0 (i + 2)), gR (some 86)]) (v := 1) dL_law_562 (sL_law_562 l) rfl ⟨by decide, by decide⟩ tL_takeOff (Nat.le_of_ble_eq_true rfl) (wL_takeOff_x l (h1 M)) ?_
    refine e_istore (loc' := [gR (some 0), gR (some 1), gR (some 74), gR (some 86), gI (i : Int), gI (1), e6]) dL_law_565 (by decide) rfl ?_
    refine g_aload_n dL_law_567 rfl rfl ?_
    refine g_aload_n dL_law_568 rfl rfl ?_
    refine g_iload dL_law_569 rfl ?_
    refine g_iconst (x := 1) dL_law_571 (by decide) ?_
    refine e_iadd (v := ((i + 1 : Nat) : Int)) dL_law_572 (gadd_nat9 (k := 1) (by omega)) ?_
    refine c_ialdS (x := S.1 0 (i + 1)) dL_law_573 (by omega) (by omega) rfl ?_
    refine g_aload_n dL_law_574 rfl rfl ?_
    refine g_iload dL_law_575 rfl ?_
    refine g_iconst (x := 2) dL_law_577 (by decide) ?_
    refine e_iadd (v := ((i + 2 : Nat) : Int)) dL_law_578 (gadd_nat9 (k := 2) (by omega)) ?_
    refine c_ialdS (x := S.1 0 (i + 2)) dL_law_579 (by omega) (by omega) rfl ?_
    refine g_Vi2 dL_law_580 (sL_law_580 l) rfl (by show 74 < 87; omega) (Nat.le_of_ble_eq_true rfl) (h3 M) ?_
    refine e_istore (loc' := [gR (some 0), gR (some 1), gR (some 74), gR (some 86), gI (i : Int), gI (1), gI (0)]) dL_law_583 (by decide) rfl ?_
    refine g_aload_n dL_law_585 rfl rfl ?_
    refine g_Vi0 dL_law_586 (sL_law_586 l) rfl (by show 74 < 87; omega) (Nat.le_of_ble_eq_true rfl) (gMi_to 1 (cX6_thrown l) up_same) ?_
    refine g_iload dL_law_589 rfl ?_
    refine g_icmp_eq (tgt := 596) dL_law_591 (by decide) (fun c591 => ?_) (fun c591 => absurd c591 (by omega))
    refine g_iload dL_law_596 rfl ?_
    refine g_if_ne (tgt := 620) dL_law_598 (by decide) (fun c598 => ?_) (fun c598 => absurd c598 (by omega))
    refine g_goto (tgt := 929) dL_law_620 (by decide) ?_
    exact kk S (up M 74 0 1) _ _ K0.rfl (rel_out h (fun a d _ _ => up_cell (by omega)) (fun d e => up_slot e)).mono
set_option maxHeartbeats 2000000 in
theorem la_plan (l : Launch) {L t i mc ms : Nat} {S : sT} {M : Nat → Nat → Int} {Q : Option (Option gV) → gH → Prop} (h : Rel t S M) (ht : t ≤ 1000) (hi : i + 4 ≤ L) (hL : L < 100000) {e5 e6 : gV} (kk : ∀ (S' : sT) (M' : Nat → Nat → Int) (e5 e6 : gV), K0 S.1 S'.1 → Rel (t + 1) S' M' → G (gπ l) mL_law 929 [gR (some 0), gR (some 1), gR (some 74), gR (some 86), gI (i : Int), e5, e6] [] (hS L S' M') mc ms Q) : G (gπ l) mL_law 623 [gR (some 0), gR (some 1), gR (some 74), gR (some 86), gI (i : Int), e5, e6] [] (hS L S M) (mc + 1) (ms + 6) Q := by
  rcases q_plan l (L := L) h (v := S.1 0 (i + 1)) with ⟨S', x, h1, h2, hb, h3⟩ | ⟨h1, h3⟩
  · obtain ⟨M', m1, m2, m3, m4⟩ := h3 (up M 86 0 x) (rel_out h (fun a d _ _ => up_cell (by omega)) (fun d _ => up_cell (by omega)))
    refine g_aload_n dL_law_623 rfl rfl ?_
    refine g_aload_n dL_law_624 rfl rfl ?_
    refine g_iload dL_law_625 rfl ?_
    refine g_iconst (x := 1) dL_law_627 (by decide) ?_
    refine e_iadd (v := ((i + 1 : Nat) : Int)) dL_law_628 (gadd_nat9 (k := 1) (by omega)) ?_
    refine c_ialdS (x := S.1 0 (i + 1)) dL_law_629 (by omega) (by omega) rfl ?_
    refine g_aload_n dL_law_630 rfl rfl ?_
    refine g_SH (as := [gR (some 1), gI (S.1 0 (i + 1)), gR (some 86)]) (v := 0) dL_law_631 (sL_law_631 l) rfl ⟨by decide, by decide⟩ tL_plan (Nat.le_of_ble_eq_true rfl) (wL_plan_1 l (h1 M)) ?_
    refine e_istore (loc' := [gR (some 0), gR (some 1), gR (some 74), gR (some 86), gI (i : Int), gI (0), e6]) dL_law_634 (by decide) rfl ?_
    refine g_aload_n dL_law_636 rfl rfl ?_
    refine g_aload_n dL_law_637 rfl rfl ?_
    refine g_iload dL_law_638 rfl ?_
    refine g_iconst (x := 1) dL_law_640 (by decide) ?_
    refine e_iadd (v := ((i + 1 : Nat) : Int)) dL_law_641 (gadd_nat9 (k := 1) (by omega)) ?_
    refine c_ialdS (x := S.1 0 (i + 1)) dL_law_642 (by omega) (by omega) (h2 (i + 1)) ?_
    refine g_Vi1 dL_law_643 (sL_law_643 l) rfl (by show 74 < 87; omega) (Nat.le_of_ble_eq_true rfl) m1 ?_
    refine e_istore (loc' := [gR (some 0), gR (some 1), gR (some 74), gR (some 86), gI (i : Int), gI (0), gI (x)]) dL_law_646 (by decide) rfl ?_
    refine g_aload_n dL_law_648 rfl rfl ?_
    refine g_Vi0 dL_law_649 (sL_law_649 l) rfl (by show 74 < 87; omega) (Nat.le_of_ble_eq_true rfl) (gMi_to 0 (cX6_thrown l) m3) ?_
    refine g_iload dL_law_652 rfl ?_
    refine g_icmp_eq (tgt := 659) dL_law_654 (by decide) (fun c654 => ?_) (fun c654 => absurd c654 (by omega))
    refine g_iload dL_law_659 rfl ?_
    refine g_if_ne (tgt := 676) dL_law_661 (by decide) (fun c661 => absurd c661 (by omega)) (fun c661 => ?_)
    refine g_aload_n dL_law_664 rfl rfl ?_
    refine g_iconst (x := 0) dL_law_665 (by decide) ?_
    refine m_lald (x := x) dL_law_666 rfl ((m4 0).trans up_same) ?_
    refine g_iload dL_law_667 rfl ?_
    refine g_i2l dL_law_669 ?_
    refine g_lcmp dL_law_670 ?_
    refine g_if_eq (tgt := 676) dL_law_671 (by decide) (fun c671 => ?_) (fun c671 => absurd gcmp_self c671)
    refine g_goto (tgt := 929) dL_law_676 (by decide) ?_
    exact kk S' M' _ _ h2 m2
  · refine g_aload_n dL_law_623 rfl rfl ?_
    refine g_aload_n dL_law_624 rfl rfl ?_
    refine g_iload dL_law_625 rfl ?_
    refine g_iconst (x := 1) dL_law_627 (by decide) ?_
    refine e_iadd (v := ((i + 1 : Nat) : Int)) dL_law_628 (gadd_nat9 (k := 1) (by omega)) ?_
    refine c_ialdS (x := S.1 0 (i + 1)) dL_law_629 (by omega) (by omega) rfl ?_
    refine g_aload_n dL_law_630 rfl rfl ?_
    refine g_SH (as := [gR (some 1), gI (S.1 0 (i + 1)), gR (some 86)]) (v := 1) dL_law_631 (sL_law_631 l) rfl ⟨by decide, by decide⟩ tL_plan (Nat.le_of_ble_eq_true rfl) (wL_plan_x l (h1 M)) ?_
    refine e_istore (loc' := [gR (some 0), gR (some 1), gR (some 74), gR (some 86), gI (i : Int), gI (1), e6]) dL_law_634 (by decide) rfl ?_
    refine g_aload_n dL_law_636 rfl rfl ?_
    refine g_aload_n dL_law_637 rfl rfl ?_
    refine g_iload dL_law_638 rfl ?_
    refine g_iconst (x := 1) dL_law_640 (by decide) ?_
    refine e_iadd (v := ((i + 1 : Nat) : Int)) dL_law_641 (gadd_nat9 (k := 1) (by omega)) ?_
    refine c_ialdS (x := S.1 0 (i + 1)) dL_law_642 (by omega) (by omega) rfl ?_
    refine g_Vi1 dL_law_643 (sL_law_643 l) rfl (by show 74 < 87; omega) (Nat.le_of_ble_eq_true rfl) (h3 M) ?_
    refine e_istore (loc' := [gR (some 0), gR (some 1), gR (some 74), gR (some 86), gI (i : Int), gI (1), gI (0)]) dL_law_646 (by decide) rfl ?_
    refine g_aload_n dL_law_648 rfl rfl ?_
    refine g_Vi0 dL_law_649 (sL_law_649 l) rfl (by show 74 < 87; omega) (Nat.le_of_ble_eq_true rfl) (gMi_to 1 (cX6_thrown l) up_same) ?_
    refine g_iload dL_law_652 rfl ?_
    refine g_icmp_eq (tgt := 659) dL_law_654 (by decide) (fun c654 => ?_) (fun c654 => absurd c654 (by omega))
    refine g_iload dL_law_659 rfl ?_
    refine g_if_ne (tgt := 676) dL_law_661 (by decide) (fun c661 => ?_) (fun c661 => absurd c661 (by omega))
    refine g_goto (tgt := 929) dL_law_676 (by decide) ?_
    exact kk S (up M 74 0 1) _ _ K0.rfl (rel_out h (fun a d _ _ => up_cell (by omega)) (fun d e => up_slot e)).mono
set_option maxHeartbeats 2000000 in
theorem la_release (l : Launch) {L t i mc ms : Nat} {S : sT} {M : Nat → Nat → Int} {Q : Option (Option gV) → gH → Prop} (h : Rel t S M) (ht : t ≤ 1000) (hi : i + 4 ≤ L) (hL : L < 100000) {e5 e6 : gV} (kk : ∀ (S' : sT) (M' : Nat → Nat → Int) (e5 e6 : gV), K0 S.1 S'.1 → Rel (t + 1) S' M' → G (gπ l) mL_law 929 [gR (some 0), gR (some 1), gR (some 74), gR (some 86), gI (i : Int), e5, e6] [] (hS L S' M') mc ms Q) : G (gπ l) mL_law 679 [gR (some 0), gR (some 1), gR (some 74), gR (some 86), gI (i : Int), e5, e6] [] (hS L S M) (mc + 1) (ms + 6) Q := by
  rcases q_release l (L := L) h ht (v := S.1 0 (i + 1)) with ⟨S', x, h1, h2, hb, h3⟩ | ⟨h1, h3⟩
  · obtain ⟨M', m1, m2, m3, m4⟩ := h3 (up M 86 0 x) (rel_out h (fun a d _ _ => up_cell (by omega)) (fun d _ => up_cell (by omega)))
    have hx := hb rfl
    rcases hx with rfl | rfl
    · refine g_aload_n dL_law_679 rfl rfl ?_
      refine g_aload_n dL_law_680 rfl rfl ?_
      refine g_iload dL_law_681 rfl ?_
      refine g_iconst (x := 1) dL_law_683 (by decide) ?_
      refine e_iadd (v := ((i + 1 : Nat) : Int)) dL_law_684 (gadd_nat9 (k := 1) (by omega)) ?_
      refine c_ialdS (x := S.1 0 (i + 1)) dL_law_685 (by omega) (by omega) rfl ?_
      refine g_aload_n dL_law_686 rfl rfl ?_
      refine g_SH (as := [gR (some 1), gI (S.1 0 (i + 1)), gR (some 86)]) (v := 0) dL_law_687 (sL_law_687 l) rfl ⟨by decide, by decide⟩ tL_release (Nat.le_of_ble_eq_true rfl) (wL_release_1 l (h1 M) (by omega)) ?_
      refine e_istore (loc' := [gR (some 0), gR (some 1), gR (some 74), gR (some 86), gI (i : Int), gI (0), e6]) dL_law_690 (by decide) rfl ?_
      refine g_aload_n dL_law_692 rfl rfl ?_
      refine g_aload_n dL_law_693 rfl rfl ?_
      refine g_iload dL_law_694 rfl ?_
      refine g_iconst (x := 1) dL_law_696 (by decide) ?_
      refine e_iadd (v := ((i + 1 : Nat) : Int)) dL_law_697 (gadd_nat9 (k := 1) (by omega)) ?_
      refine c_ialdS (x := S.1 0 (i + 1)) dL_law_698 (by omega) (by omega) (h2 (i + 1)) ?_
      refine g_Vi1 dL_law_699 (sL_law_699 l) rfl (by show 74 < 87; omega) (Nat.le_of_ble_eq_true rfl) m1 ?_
      refine e_istore (loc' := [gR (some 0), gR (some 1), gR (some 74), gR (some 86), gI (i : Int), gI (0), gI (0)]) dL_law_702 (by decide) rfl ?_
      refine g_aload_n dL_law_704 rfl rfl ?_
      refine g_Vi0 dL_law_705 (sL_law_705 l) rfl (by show 74 < 87; omega) (Nat.le_of_ble_eq_true rfl) (gMi_to 0 (cX6_thrown l) m3) ?_
      refine g_iload dL_law_708 rfl ?_
      refine g_icmp_eq (tgt := 715) dL_law_710 (by decide) (fun c710 => ?_) (fun c710 => absurd c710 (by omega))
      refine g_iload dL_law_715 rfl ?_
      refine g_if_ne (tgt := 739) dL_law_717 (by decide) (fun c717 => absurd c717 (by omega)) (fun c717 => ?_)
      refine g_aload_n dL_law_720 rfl rfl ?_
      refine g_iconst (x := 0) dL_law_721 (by decide) ?_
      refine m_lald (x := 0) dL_law_722 rfl ((m4 0).trans up_same) ?_
      refine g_iload dL_law_723 rfl ?_
      refine g_if_eq (tgt := 732) dL_law_725 (by decide) (fun c725 => ?_) (fun c725 => absurd c725 (by omega))
      refine g_lconst (x := 0) dL_law_732 (by decide) ?_
      refine g_lcmp dL_law_733 ?_
      refine g_if_eq (tgt := 739) dL_law_734 (by decide) (fun c734 => ?_) (fun c734 => absurd gcmp_self c734)
      refine g_goto (tgt := 929) dL_law_739 (by decide) ?_
      exact kk S' M' _ _ h2 m2
    · refine g_aload_n dL_law_679 rfl rfl ?_
      refine g_aload_n dL_law_680 rfl rfl ?_
      refine g_iload dL_law_681 rfl ?_
      refine g_iconst (x := 1) dL_law_683 (by decide) ?_
      refine e_iadd (v := ((i + 1 : Nat) : Int)) dL_law_684 (gadd_nat9 (k := 1) (by omega)) ?_
      refine c_ialdS (x := S.1 0 (i + 1)) dL_law_685 (by omega) (by omega) rfl ?_
      refine g_aload_n dL_law_686 rfl rfl ?_
      refine g_SH (as := [gR (some 1), gI (S.1 0 (i + 1)), gR (some 86)]) (v := 0) dL_law_687 (sL_law_687 l) rfl ⟨by decide, by decide⟩ tL_release (Nat.le_of_ble_eq_true rfl) (wL_release_1 l (h1 M) (by omega)) ?_
      refine e_istore (loc' := [gR (some 0), gR (some 1), gR (some 74), gR (some 86), gI (i : Int), gI (0), e6]) dL_law_690 (by decide) rfl ?_
      refine g_aload_n dL_law_692 rfl rfl ?_
      refine g_aload_n dL_law_693 rfl rfl ?_
      refine g_iload dL_law_694 rfl ?_
      refine g_iconst (x := 1) dL_law_696 (by decide) ?_
      refine e_iadd (v := ((i + 1 : Nat) : Int)) dL_law_697 (gadd_nat9 (k := 1) (by omega)) ?_
      refine c_ialdS (x := S.1 0 (i + 1)) dL_law_698 (by omega) (by omega) (h2 (i + 1)) ?_
      refine g_Vi1 dL_law_699 (sL_law_699 l) rfl (by show 74 < 87; omega) (Nat.le_of_ble_eq_true rfl) m1 ?_
      refine e_istore (loc' := [gR (some 0), gR (some 1), gR (some 74), gR (some 86), gI (i : Int), gI (0), gI (1)]) dL_law_702 (by decide) rfl ?_
      refine g_aload_n dL_law_704 rfl rfl ?_
      refine g_Vi0 dL_law_705 (sL_law_705 l) rfl (by show 74 < 87; omega) (Nat.le_of_ble_eq_true rfl) (gMi_to 0 (cX6_thrown l) m3) ?_
      refine g_iload dL_law_708 rfl ?_
      refine g_icmp_eq (tgt := 715) dL_law_710 (by decide) (fun c710 => ?_) (fun c710 => absurd c710 (by omega))
      refine g_iload dL_law_715 rfl ?_
      refine g_if_ne (tgt := 739) dL_law_717 (by decide) (fun c717 => absurd c717 (by omega)) (fun c717 => ?_)
      refine g_aload_n dL_law_720 rfl rfl ?_
      refine g_iconst (x := 0) dL_law_721 (by decide) ?_
      refine m_lald (x := 1) dL_law_722 rfl ((m4 0).trans up_same) ?_
      refine g_iload dL_law_723 rfl ?_
      refine g_if_eq (tgt := 732) dL_law_725 (by decide) (fun c725 => absurd c725 (by omega)) (fun c725 => ?_)
      refine g_lconst (x := 1) dL_law_728 (by decide) ?_
      refine g_goto (tgt := 733) dL_law_729 (by decide) ?_
      refine g_lcmp dL_law_733 ?_
      refine g_if_eq (tgt := 739) dL_law_734 (by decide) (fun c734 => ?_) (fun c734 => absurd gcmp_self c734)
      refine g_goto (tgt := 929) dL_law_739 (by decide) ?_
      exact kk S' M' _ _ h2 m2
  · refine g_aload_n dL_law_679 rfl rfl ?_
    refine g_aload_n dL_law_680 rfl rfl ?_
    refine g_iload dL_law_681 rfl ?_
    refine g_iconst (x := 1) dL_law_683 (by decide) ?_
    refine e_iadd (v := ((i + 1 : Nat) : Int)) dL_law_684 (gadd_nat9 (k := 1) (by omega)) ?_
    refine c_ialdS (x := S.1 0 (i + 1)) dL_law_685 (by omega) (by omega) rfl ?_
    refine g_aload_n dL_law_686 rfl rfl ?_
    refine g_SH (as := [gR (some 1), gI (S.1 0 (i + 1)), gR (some 86)]) (v := 1) dL_law_687 (sL_law_687 l) rfl ⟨by decide, by decide⟩ tL_release (Nat.le_of_ble_eq_true rfl) (wL_release_x l (h1 M)) ?_
    refine e_istore (loc' := [gR (some 0), gR (some 1), gR (some 74), gR (some 86), gI (i : Int), gI (1), e6]) dL_law_690 (by decide) rfl ?_
    refine g_aload_n dL_law_692 rfl rfl ?_
    refine g_aload_n dL_law_693 rfl rfl ?_
    refine g_iload dL_law_694 rfl ?_
    refine g_iconst (x := 1) dL_law_696 (by decide) ?_
    refine e_iadd (v := ((i + 1 : Nat) : Int)) dL_law_697 (gadd_nat9 (k := 1) (by omega)) ?_
    refine c_ialdS (x := S.1 0 (i + 1)) dL_law_698 (by omega) (by omega) rfl ?_
    refine g_Vi1 dL_law_699 (sL_law_699 l) rfl (by show 74 < 87; omega) (Nat.le_of_ble_eq_true rfl) (h3 M) ?_
    refine e_istore (loc' := [gR (some 0), gR (some 1), gR (some 74), gR (some 86), gI (i : Int), gI (1), gI (0)]) dL_law_702 (by decide) rfl ?_
    refine g_aload_n dL_law_704 rfl rfl ?_
    refine g_Vi0 dL_law_705 (sL_law_705 l) rfl (by show 74 < 87; omega) (Nat.le_of_ble_eq_true rfl) (gMi_to 1 (cX6_thrown l) up_same) ?_
    refine g_iload dL_law_708 rfl ?_
    refine g_icmp_eq (tgt := 715) dL_law_710 (by decide) (fun c710 => ?_) (fun c710 => absurd c710 (by omega))
    refine g_iload dL_law_715 rfl ?_
    refine g_if_ne (tgt := 739) dL_law_717 (by decide) (fun c717 => ?_) (fun c717 => absurd c717 (by omega))
    refine g_goto (tgt := 929) dL_law_739 (by decide) ?_
    exact kk S (up M 74 0 1) _ _ K0.rfl (rel_out h (fun a d _ _ => up_cell (by omega)) (fun d e => up_slot e)).mono
set_option maxHeartbeats 2000000 in
theorem la_locks (l : Launch) {L t i mc ms : Nat} {S : sT} {M : Nat → Nat → Int} {Q : Option (Option gV) → gH → Prop} (h : Rel t S M) (ht : t ≤ 1000) (hi : i + 4 ≤ L) (hL : L < 100000) {e5 e6 : gV} (kk : ∀ (S' : sT) (M' : Nat → Nat → Int) (e5 e6 : gV), K0 S.1 S'.1 → Rel (t + 1) S' M' → G (gπ l) mL_law 929 [gR (some 0), gR (some 1), gR (some 74), gR (some 86), gI (i : Int), e5, e6] [] (hS L S' M') mc ms Q) : G (gπ l) mL_law 742 [gR (some 0), gR (some 1), gR (some 74), gR (some 86), gI (i : Int), e5, e6] [] (hS L S M) (mc + 1) (ms + 6) Q := by
  refine g_more ?_
  obtain ⟨S', x, h1, h2, hb, h3⟩ := q_locks l (L := L) h 
  obtain ⟨M', m1, m2, m3, m4⟩ := h3 M h
  refine g_aload_n dL_law_742 rfl rfl ?_
  refine g_Vi0 dL_law_743 (sL_law_743 l) rfl (by show 1 < 87; omega) (Nat.le_of_ble_eq_true rfl) (h1 M) ?_
  refine g_aload_n dL_law_746 rfl rfl ?_
  refine g_Vi0 dL_law_747 (sL_law_747 l) rfl (by show 74 < 87; omega) (Nat.le_of_ble_eq_true rfl) m1 ?_
  refine g_icmp_eq (tgt := 929) dL_law_750 (by decide) (fun c750 => ?_) (fun c750 => absurd c750 (by omega))
  exact kk S' M' _ _ h2 m2
set_option maxHeartbeats 2000000 in
theorem la_where (l : Launch) {L t i mc ms : Nat} {S : sT} {M : Nat → Nat → Int} {Q : Option (Option gV) → gH → Prop} (h : Rel t S M) (ht : t ≤ 1000) (hi : i + 4 ≤ L) (hL : L < 100000) {e5 e6 : gV} (kk : ∀ (S' : sT) (M' : Nat → Nat → Int) (e5 e6 : gV), K0 S.1 S'.1 → Rel (t + 1) S' M' → G (gπ l) mL_law 929 [gR (some 0), gR (some 1), gR (some 74), gR (some 86), gI (i : Int), e5, e6] [] (hS L S' M') mc ms Q) : G (gπ l) mL_law 755 [gR (some 0), gR (some 1), gR (some 74), gR (some 86), gI (i : Int), e5, e6] [] (hS L S M) (mc + 1) (ms + 6) Q := by
  rcases q_where l (L := L) h (v := S.1 0 (i + 1)) (w := S.1 0 (i + 2)) with ⟨S', x, h1, h2, hb, h3⟩ | ⟨h1, h3⟩
  · obtain ⟨M', m1, m2, m3, m4⟩ := h3 (up M 86 0 x) (rel_out h (fun a d _ _ => up_cell (by omega)) (fun d _ => up_cell (by omega)))
    refine g_aload_n dL_law_755 rfl rfl ?_
    refine g_aload_n dL_law_756 rfl rfl ?_
    refine g_iload dL_law_757 rfl ?_
    refine g_iconst (x := 1) dL_law_759 (by decide) ?_
    refine e_iadd (v := ((i + 1 : Nat) : Int)) dL_law_760 (gadd_nat9 (k := 1) (by omega)) ?_
    refine c_ialdS (x := S.1 0 (i + 1)) dL_law_761 (by omega) (by omega) rfl ?_
    refine g_aload_n dL_law_762 rfl rfl ?_
    refine g_iload dL_law_763 rfl ?_
    refine g_iconst (x := 2) dL_law_765 (by decide) ?_
    refine e_iadd (v := ((i + 2 : Nat) : Int)) dL_law_766 (gadd_nat9 (k := 2) (by omega)) ?_
    refine c_ialdS (x := S.1 0 (i + 2)) dL_law_767 (by omega) (by omega) rfl ?_
    refine g_aload_n dL_law_768 rfl rfl ?_
    refine g_SH (as := [gR (some 1), gI (S.1 0 (i + 1)), gI (S.1 0 (i + 2)), gR (some 86)]) (v := 0) dL_law_769 (sL_law_769 l) rfl ⟨by decide, by decide⟩ tL_where (Nat.le_of_ble_eq_true rfl) (wL_where_1 l (h1 M)) ?_
    refine e_istore (loc' := [gR (some 0), gR (some 1), gR (some 74), gR (some 86), gI (i : Int), gI (0), e6]) dL_law_772 (by decide) rfl ?_
    refine g_aload_n dL_law_774 rfl rfl ?_
    refine g_aload_n dL_law_775 rfl rfl ?_
    refine g_iload dL_law_776 rfl ?_
    refine g_iconst (x := 1) dL_law_778 (by decide) ?_
    refine e_iadd (v := ((i + 1 : Nat) : Int)) dL_law_779 (gadd_nat9 (k := 1) (by omega)) ?_
    refine c_ialdS (x := S.1 0 (i + 1)) dL_law_780 (by omega) (by omega) (h2 (i + 1)) ?_
    refine g_aload_n dL_law_781 rfl rfl ?_
    refine g_iload dL_law_782 rfl ?_
    refine g_iconst (x := 2) dL_law_784 (by decide) ?_
    refine e_iadd (v := ((i + 2 : Nat) : Int)) dL_law_785 (gadd_nat9 (k := 2) (by omega)) ?_
    refine c_ialdS (x := S.1 0 (i + 2)) dL_law_786 (by omega) (by omega) (h2 (i + 2)) ?_
    refine g_Vi2 dL_law_787 (sL_law_787 l) rfl (by show 74 < 87; omega) (Nat.le_of_ble_eq_true rfl) m1 ?_
    refine e_istore (loc' := [gR (some 0), gR (some 1), gR (some 74), gR (some 86), gI (i : Int), gI (0), gI (x)]) dL_law_790 (by decide) rfl ?_
    refine g_aload_n dL_law_792 rfl rfl ?_
    refine g_Vi0 dL_law_793 (sL_law_793 l) rfl (by show 74 < 87; omega) (Nat.le_of_ble_eq_true rfl) (gMi_to 0 (cX6_thrown l) m3) ?_
    refine g_iload dL_law_796 rfl ?_
    refine g_icmp_eq (tgt := 803) dL_law_798 (by decide) (fun c798 => ?_) (fun c798 => absurd c798 (by omega))
    refine g_iload dL_law_803 rfl ?_
    refine g_if_ne (tgt := 820) dL_law_805 (by decide) (fun c805 => absurd c805 (by omega)) (fun c805 => ?_)
    refine g_aload_n dL_law_808 rfl rfl ?_
    refine g_iconst (x := 0) dL_law_809 (by decide) ?_
    refine m_lald (x := x) dL_law_810 rfl ((m4 0).trans up_same) ?_
    refine g_iload dL_law_811 rfl ?_
    refine g_i2l dL_law_813 ?_
    refine g_lcmp dL_law_814 ?_
    refine g_if_eq (tgt := 820) dL_law_815 (by decide) (fun c815 => ?_) (fun c815 => absurd gcmp_self c815)
    refine g_goto (tgt := 929) dL_law_820 (by decide) ?_
    exact kk S' M' _ _ h2 m2
  · refine g_aload_n dL_law_755 rfl rfl ?_
    refine g_aload_n dL_law_756 rfl rfl ?_
    refine g_iload dL_law_757 rfl ?_
    refine g_iconst (x := 1) dL_law_759 (by decide) ?_
    refine e_iadd (v := ((i + 1 : Nat) : Int)) dL_law_760 (gadd_nat9 (k := 1) (by omega)) ?_
    refine c_ialdS (x := S.1 0 (i + 1)) dL_law_761 (by omega) (by omega) rfl ?_
    refine g_aload_n dL_law_762 rfl rfl ?_
    refine g_iload dL_law_763 rfl ?_
    refine g_iconst (x := 2) dL_law_765 (by decide) ?_
    refine e_iadd (v := ((i + 2 : Nat) : Int)) dL_law_766 (gadd_nat9 (k := 2) (by omega)) ?_
    refine c_ialdS (x := S.1 0 (i + 2)) dL_law_767 (by omega) (by omega) rfl ?_
    refine g_aload_n dL_law_768 rfl rfl ?_
    refine g_SH (as := [gR (some 1), gI (S.1 0 (i + 1)), gI (S.1 0 (i + 2)), gR (some 86)]) (v := 1) dL_law_769 (sL_law_769 l) rfl ⟨by decide, by decide⟩ tL_where (Nat.le_of_ble_eq_true rfl) (wL_where_x l (h1 M)) ?_
    refine e_istore (loc' := [gR (some 0), gR (some 1), gR (some 74), gR (some 86), gI (i : Int), gI (1), e6]) dL_law_772 (by decide) rfl ?_
    refine g_aload_n dL_law_774 rfl rfl ?_
    refine g_aload_n dL_law_775 rfl rfl ?_
    refine g_iload dL_law_776 rfl ?_
    refine g_iconst (x := 1) dL_law_778 (by decide) ?_
    refine e_iadd (v := ((i + 1 : Nat) : Int)) dL_law_779 (gadd_nat9 (k := 1) (by omega)) ?_
    refine c_ialdS (x := S.1 0 (i + 1)) dL_law_780 (by omega) (by omega) rfl ?_
    refine g_aload_n dL_law_781 rfl rfl ?_
    refine g_iload dL_law_782 rfl ?_
    refine g_iconst (x := 2) dL_law_784 (by decide) ?_
    refine e_iadd (v := ((i + 2 : Nat) : Int)) dL_law_785 (gadd_nat9 (k := 2) (by omega)) ?_
    refine c_ialdS (x := S.1 0 (i + 2)) dL_law_786 (by omega) (by omega) rfl ?_
    refine g_Vi2 dL_law_787 (sL_law_787 l) rfl (by show 74 < 87; omega) (Nat.le_of_ble_eq_true rfl) (h3 M) ?_
    refine e_istore (loc' := [gR (some 0), gR (some 1), gR (some 74), gR (some 86), gI (i : Int), gI (1), gI (0)]) dL_law_790 (by decide) rfl ?_
    refine g_aload_n dL_law_792 rfl rfl ?_
    refine g_Vi0 dL_law_793 (sL_law_793 l) rfl (by show 74 < 87; omega) (Nat.le_of_ble_eq_true rfl) (gMi_to 1 (cX6_thrown l) up_same) ?_
    refine g_iload dL_law_796 rfl ?_
    refine g_icmp_eq (tgt := 803) dL_law_798 (by decide) (fun c798 => ?_) (fun c798 => absurd c798 (by omega))
    refine g_iload dL_law_803 rfl ?_
    refine g_if_ne (tgt := 820) dL_law_805 (by decide) (fun c805 => ?_) (fun c805 => absurd c805 (by omega))
    refine g_goto (tgt := 929) dL_law_820 (by decide) ?_
    exact kk S (up M 74 0 1) _ _ K0.rfl (rel_out h (fun a d _ _ => up_cell (by omega)) (fun d e => up_slot e)).mono
set_option maxHeartbeats 2000000 in
theorem la_gap (l : Launch) {L t i mc ms : Nat} {S : sT} {M : Nat → Nat → Int} {Q : Option (Option gV) → gH → Prop} (h : Rel t S M) (ht : t ≤ 1000) (hi : i + 4 ≤ L) (hL : L < 100000) {e5 e6 : gV} (kk : ∀ (S' : sT) (M' : Nat → Nat → Int) (e5 e6 : gV), K0 S.1 S'.1 → Rel (t + 1) S' M' → G (gπ l) mL_law 929 [gR (some 0), gR (some 1), gR (some 74), gR (some 86), gI (i : Int), e5, e6] [] (hS L S' M') mc ms Q) : G (gπ l) mL_law 823 [gR (some 0), gR (some 1), gR (some 74), gR (some 86), gI (i : Int), e5, e6] [] (hS L S M) (mc + 1) (ms + 6) Q := by
  rcases q_gap l (L := L) h (v := S.1 0 (i + 1)) with ⟨S', x, h1, h2, hb, h3⟩ | ⟨h1, h3⟩
  · obtain ⟨M', m1, m2, m3, m4⟩ := h3 (up M 86 0 x) (rel_out h (fun a d _ _ => up_cell (by omega)) (fun d _ => up_cell (by omega)))
    refine g_aload_n dL_law_823 rfl rfl ?_
    refine g_aload_n dL_law_824 rfl rfl ?_
    refine g_iload dL_law_825 rfl ?_
    refine g_iconst (x := 1) dL_law_827 (by decide) ?_
    refine e_iadd (v := ((i + 1 : Nat) : Int)) dL_law_828 (gadd_nat9 (k := 1) (by omega)) ?_
    refine c_ialdS (x := S.1 0 (i + 1)) dL_law_829 (by omega) (by omega) rfl ?_
    refine g_aload_n dL_law_830 rfl rfl ?_
    refine g_SH (as := [gR (some 1), gI (S.1 0 (i + 1)), gR (some 86)]) (v := 0) dL_law_831 (sL_law_831 l) rfl ⟨by decide, by decide⟩ tL_gap (Nat.le_of_ble_eq_true rfl) (wL_gap_1 l (h1 M)) ?_
    refine e_istore (loc' := [gR (some 0), gR (some 1), gR (some 74), gR (some 86), gI (i : Int), gI (0), e6]) dL_law_834 (by decide) rfl ?_
    refine g_aload_n dL_law_836 rfl rfl ?_
    refine g_aload_n dL_law_837 rfl rfl ?_
    refine g_iload dL_law_838 rfl ?_
    refine g_iconst (x := 1) dL_law_840 (by decide) ?_
    refine e_iadd (v := ((i + 1 : Nat) : Int)) dL_law_841 (gadd_nat9 (k := 1) (by omega)) ?_
    refine c_ialdS (x := S.1 0 (i + 1)) dL_law_842 (by omega) (by omega) (h2 (i + 1)) ?_
    refine g_Vi1 dL_law_843 (sL_law_843 l) rfl (by show 74 < 87; omega) (Nat.le_of_ble_eq_true rfl) m1 ?_
    refine e_istore (loc' := [gR (some 0), gR (some 1), gR (some 74), gR (some 86), gI (i : Int), gI (0), gI (x)]) dL_law_846 (by decide) rfl ?_
    refine g_aload_n dL_law_848 rfl rfl ?_
    refine g_Vi0 dL_law_849 (sL_law_849 l) rfl (by show 74 < 87; omega) (Nat.le_of_ble_eq_true rfl) (gMi_to 0 (cX6_thrown l) m3) ?_
    refine g_iload dL_law_852 rfl ?_
    refine g_icmp_eq (tgt := 859) dL_law_854 (by decide) (fun c854 => ?_) (fun c854 => absurd c854 (by omega))
    refine g_iload dL_law_859 rfl ?_
    refine g_if_ne (tgt := 876) dL_law_861 (by decide) (fun c861 => absurd c861 (by omega)) (fun c861 => ?_)
    refine g_aload_n dL_law_864 rfl rfl ?_
    refine g_iconst (x := 0) dL_law_865 (by decide) ?_
    refine m_lald (x := x) dL_law_866 rfl ((m4 0).trans up_same) ?_
    refine g_iload dL_law_867 rfl ?_
    refine g_i2l dL_law_869 ?_
    refine g_lcmp dL_law_870 ?_
    refine g_if_eq (tgt := 876) dL_law_871 (by decide) (fun c871 => ?_) (fun c871 => absurd gcmp_self c871)
    refine g_goto (tgt := 929) dL_law_876 (by decide) ?_
    exact kk S' M' _ _ h2 m2
  · refine g_aload_n dL_law_823 rfl rfl ?_
    refine g_aload_n dL_law_824 rfl rfl ?_
    refine g_iload dL_law_825 rfl ?_
    refine g_iconst (x := 1) dL_law_827 (by decide) ?_
    refine e_iadd (v := ((i + 1 : Nat) : Int)) dL_law_828 (gadd_nat9 (k := 1) (by omega)) ?_
    refine c_ialdS (x := S.1 0 (i + 1)) dL_law_829 (by omega) (by omega) rfl ?_
    refine g_aload_n dL_law_830 rfl rfl ?_
    refine g_SH (as := [gR (some 1), gI (S.1 0 (i + 1)), gR (some 86)]) (v := 1) dL_law_831 (sL_law_831 l) rfl ⟨by decide, by decide⟩ tL_gap (Nat.le_of_ble_eq_true rfl) (wL_gap_x l (h1 M)) ?_
    refine e_istore (loc' := [gR (some 0), gR (some 1), gR (some 74), gR (some 86), gI (i : Int), gI (1), e6]) dL_law_834 (by decide) rfl ?_
    refine g_aload_n dL_law_836 rfl rfl ?_
    refine g_aload_n dL_law_837 rfl rfl ?_
    refine g_iload dL_law_838 rfl ?_
    refine g_iconst (x := 1) dL_law_840 (by decide) ?_
    refine e_iadd (v := ((i + 1 : Nat) : Int)) dL_law_841 (gadd_nat9 (k := 1) (by omega)) ?_
    refine c_ialdS (x := S.1 0 (i + 1)) dL_law_842 (by omega) (by omega) rfl ?_
    refine g_Vi1 dL_law_843 (sL_law_843 l) rfl (by show 74 < 87; omega) (Nat.le_of_ble_eq_true rfl) (h3 M) ?_
    refine e_istore (loc' := [gR (some 0), gR (some 1), gR (some 74), gR (some 86), gI (i : Int), gI (1), gI (0)]) dL_law_846 (by decide) rfl ?_
    refine g_aload_n dL_law_848 rfl rfl ?_
    refine g_Vi0 dL_law_849 (sL_law_849 l) rfl (by show 74 < 87; omega) (Nat.le_of_ble_eq_true rfl) (gMi_to 1 (cX6_thrown l) up_same) ?_
    refine g_iload dL_law_852 rfl ?_
    refine g_icmp_eq (tgt := 859) dL_law_854 (by decide) (fun c854 => ?_) (fun c854 => absurd c854 (by omega))
    refine g_iload dL_law_859 rfl ?_
    refine g_if_ne (tgt := 876) dL_law_861 (by decide) (fun c861 => ?_) (fun c861 => absurd c861 (by omega))
    refine g_goto (tgt := 929) dL_law_876 (by decide) ?_
    exact kk S (up M 74 0 1) _ _ K0.rfl (rel_out h (fun a d _ _ => up_cell (by omega)) (fun d e => up_slot e)).mono
set_option maxHeartbeats 2000000 in
theorem la_sided (l : Launch) {L t i mc ms : Nat} {S : sT} {M : Nat → Nat → Int} {Q : Option (Option gV) → gH → Prop} (h : Rel t S M) (ht : t ≤ 1000) (hi : i + 4 ≤ L) (hL : L < 100000) {e5 e6 : gV} (kk : ∀ (S' : sT) (M' : Nat → Nat → Int) (e5 e6 : gV), K0 S.1 S'.1 → Rel (t + 1) S' M' → G (gπ l) mL_law 929 [gR (some 0), gR (some 1), gR (some 74), gR (some 86), gI (i : Int), e5, e6] [] (hS L S' M') mc ms Q) : G (gπ l) mL_law 879 [gR (some 0), gR (some 1), gR (some 74), gR (some 86), gI (i : Int), e5, e6] [] (hS L S M) (mc + 1) (ms + 6) Q := by
  refine g_more ?_
  obtain ⟨S', x, h1, h2, hb, h3⟩ := q_sided l (L := L) h (v := S.1 0 (i + 1))
  obtain ⟨M', m1, m2, m3, m4⟩ := h3 M h
  refine g_aload_n dL_law_879 rfl rfl ?_
  refine g_aload_n dL_law_880 rfl rfl ?_
  refine g_iload dL_law_881 rfl ?_
  refine g_iconst (x := 1) dL_law_883 (by decide) ?_
  refine e_iadd (v := ((i + 1 : Nat) : Int)) dL_law_884 (gadd_nat9 (k := 1) (by omega)) ?_
  refine c_ialdS (x := S.1 0 (i + 1)) dL_law_885 (by omega) (by omega) rfl ?_
  refine g_Vi1 dL_law_886 (sL_law_886 l) rfl (by show 1 < 87; omega) (Nat.le_of_ble_eq_true rfl) (h1 M) ?_
  refine g_aload_n dL_law_889 rfl rfl ?_
  refine g_aload_n dL_law_890 rfl rfl ?_
  refine g_iload dL_law_891 rfl ?_
  refine g_iconst (x := 1) dL_law_893 (by decide) ?_
  refine e_iadd (v := ((i + 1 : Nat) : Int)) dL_law_894 (gadd_nat9 (k := 1) (by omega)) ?_
  refine c_ialdS (x := S.1 0 (i + 1)) dL_law_895 (by omega) (by omega) (h2 (i + 1)) ?_
  refine g_Vi1 dL_law_896 (sL_law_896 l) rfl (by show 74 < 87; omega) (Nat.le_of_ble_eq_true rfl) m1 ?_
  refine g_icmp_eq (tgt := 929) dL_law_899 (by decide) (fun c899 => ?_) (fun c899 => absurd c899 (by omega))
  exact kk S' M' _ _ h2 m2
set_option maxHeartbeats 2000000 in
theorem la_state (l : Launch) {L t i mc ms : Nat} {S : sT} {M : Nat → Nat → Int} {Q : Option (Option gV) → gH → Prop} (h : Rel t S M) (ht : t ≤ 1000) (hi : i + 4 ≤ L) (hL : L < 100000) {e5 e6 : gV} (kk : ∀ (S' : sT) (M' : Nat → Nat → Int) (e5 e6 : gV), K0 S.1 S'.1 → Rel (t + 1) S' M' → G (gπ l) mL_law 929 [gR (some 0), gR (some 1), gR (some 74), gR (some 86), gI (i : Int), e5, e6] [] (hS L S' M') mc ms Q) : G (gπ l) mL_law 904 [gR (some 0), gR (some 1), gR (some 74), gR (some 86), gI (i : Int), e5, e6] [] (hS L S M) (mc + 1) (ms + 6) Q := by
  refine g_more ?_
  obtain ⟨S', x, h1, h2, hb, h3⟩ := q_state l (L := L) h ht (v := S.1 0 (i + 1))
  obtain ⟨M', m1, m2, m3, m4⟩ := h3 M h
  refine g_aload_n dL_law_904 rfl rfl ?_
  refine g_aload_n dL_law_905 rfl rfl ?_
  refine g_iload dL_law_906 rfl ?_
  refine g_iconst (x := 1) dL_law_908 (by decide) ?_
  refine e_iadd (v := ((i + 1 : Nat) : Int)) dL_law_909 (gadd_nat9 (k := 1) (by omega)) ?_
  refine c_ialdS (x := S.1 0 (i + 1)) dL_law_910 (by omega) (by omega) rfl ?_
  refine g_Vi1 dL_law_911 (sL_law_911 l) rfl (by show 1 < 87; omega) (Nat.le_of_ble_eq_true rfl) (h1 M) ?_
  refine g_aload_n dL_law_914 rfl rfl ?_
  refine g_aload_n dL_law_915 rfl rfl ?_
  refine g_iload dL_law_916 rfl ?_
  refine g_iconst (x := 1) dL_law_918 (by decide) ?_
  refine e_iadd (v := ((i + 1 : Nat) : Int)) dL_law_919 (gadd_nat9 (k := 1) (by omega)) ?_
  refine c_ialdS (x := S.1 0 (i + 1)) dL_law_920 (by omega) (by omega) (h2 (i + 1)) ?_
  refine g_Vi1 dL_law_921 (sL_law_921 l) rfl (by show 74 < 87; omega) (Nat.le_of_ble_eq_true rfl) m1 ?_
  refine g_icmp_eq (tgt := 929) dL_law_924 (by decide) (fun c924 => ?_) (fun c924 => absurd c924 (by omega))
  exact kk S' M' _ _ h2 m2
