/-! the cases of the switch in the law -/
theorem lcmp_same (v : Int64) : lg_cmp v v = 0 := (lg_cmp_eq v v).mpr rfl
set_option maxHeartbeats 4000000 in
set_option maxRecDepth 100000 in
theorem lc_put {p : Program} {e : Env} {s : State} {m : MethodId} {below : List Frame} {meth : Method} {c : Code} {l : Launch} (hl0 : l.stackTraces = false) {sb L : Nat} {xs : Nat → Int32} (C0 : lw_At p s m meth c sb L xs) {A : Nat → Prop} (hA : ∀ q, s.heap.size ≤ q → A q) (hbA : ¬ A sb)
    {dC : Nat → ClassId} {dI : Nat → Nat → Nat} {a b : Nat → Nat} {o : Nat} {cI cL cZ : ClassId} (hK : va_K (dC, dI) vwCl (gT cI cL cZ) s) (hZ : gZ A s s.heap) (hG : gX A s s.heap) {x w : gSt} {f : Nat → Int64} (h : rObs x w) (hc : x.1 22 0 ≤ 1597000) {i : Nat} (hi : i + 6 ≤ L) (hL : L ≤ 3072)
    {H : Heap} {locs : List Loc} {ls : Array Slot} {cells slots : Nat} (hcs : cells + 1 ≤ room_1.cells ∧ slots + 6 ≤ room_1.slots) (hP : va_P (dC, dI) vwCl (lW a b o cI cL cZ x w f) H) (hD : va_D A (lW a b o cI cL cZ x w f)) (hS : va_S A s.heap H locs) (hl : lv_has ls 8 [(4, .int (nI i)), (0, .ref sb), (1, .ref (a 0)), (2, .ref (b 0)), (3, .ref o)]) {Q : State → Prop}
    (kk : ∀ (x' w' : gSt) (g : Nat → Int64) (H1 : Heap) (locs1 : List Loc) (ls1 : Array Slot), rObs x' w' → x'.1 22 0 ≤ x.1 22 0 + 3000 → va_P (dC, dI) vwCl (lW a b o cI cL cZ x' w' g) H1 → va_D A (lW a b o cI cL cZ x' w' g) → va_S A s.heap H1 locs1 → lv_has ls1 8 [(4, .int (nI i)), (0, .ref sb), (1, .ref (a 0)), (2, .ref (b 0)), (3, .ref o)] → W p l e room_1 s m #[Value.ref sb] below meth c H1 locs1 (cells + 1) (slots + 6) Q (F0 m 729 ls1 [])) :
    W p l e room_1 s m #[Value.ref sb] below meth c H locs cells slots Q (F0 m 116 ls []) := by
  obtain ⟨hx, hb, hr, hml, hown, hts0, hX, hbl, hlocks, -⟩ := C0
  have hts : ∀ w ∈ wsN_law, w.before #[Value.ref sb] s = true := fun w h => hts0 w (wsN_law_in w h)
  have hown : s.vm.findClass RL = some m.cls := hown
  have hf : cells ≤ room_1.cells ∧ slots ≤ room_1.slots := ⟨Nat.le_of_succ_le hcs.1, Nat.le_trans (Nat.le_add_right _ 6) hcs.2⟩
  obtain ⟨r, x', w', rx, rw, ho, hcy, okx, okw, hMx, hMw⟩ := p_put l dC dI a b cI cL cZ h hc (xs (nI (i + 1)).toNatClampNeg) (xs (nI (i + 2)).toNatClampNeg) (xs (nI (i + 3)).toNatClampNeg) (xs (nI (i + 4)).toNatClampNeg) (xs (nI (i + 5)).toNatClampNeg)
  refine lv_aload_n hx hb dL_law_116 rfl (lv_at hl 2 rfl) ?_
  refine lv_aload_n hx hb dL_law_117 rfl (lv_at hl 1 rfl) ?_
  refine lv_iload hx hb dL_law_118 (lv_at hl 0 rfl) ?_
  refine lv_iconst (v := nI 1) hx hb dL_law_120 (by decide) ?_
  refine n_add hx hb dL_law_121 ?_
  refine va_sld hx hb hX hbl hbA hS (vp_in_nI (show i + 1 < L by omega) (by omega)) dL_law_122 ?_
  refine lv_aload_n hx hb dL_law_123 rfl (lv_at hl 1 rfl) ?_
  refine lv_iload hx hb dL_law_124 (lv_at hl 0 rfl) ?_
  refine lv_iconst (v := nI 2) hx hb dL_law_126 (by decide) ?_
  refine n_add hx hb dL_law_127 ?_
  refine va_sld hx hb hX hbl hbA hS (vp_in_nI (show i + 2 < L by omega) (by omega)) dL_law_128 ?_
  refine lv_aload_n hx hb dL_law_129 rfl (lv_at hl 1 rfl) ?_
  refine lv_iload hx hb dL_law_130 (lv_at hl 0 rfl) ?_
  refine lv_iconst (v := nI 3) hx hb dL_law_132 (by decide) ?_
  refine n_add hx hb dL_law_133 ?_
  refine va_sld hx hb hX hbl hbA hS (vp_in_nI (show i + 3 < L by omega) (by omega)) dL_law_134 ?_
  refine lv_aload_n hx hb dL_law_135 rfl (lv_at hl 1 rfl) ?_
  refine lv_iload hx hb dL_law_136 (lv_at hl 0 rfl) ?_
  refine lv_iconst (v := nI 4) hx hb dL_law_138 (by decide) ?_
  refine n_add hx hb dL_law_139 ?_
  refine va_sld hx hb hX hbl hbA hS (vp_in_nI (show i + 4 < L by omega) (by omega)) dL_law_140 ?_
  refine lv_aload_n hx hb dL_law_141 rfl (lv_at hl 1 rfl) ?_
  refine lv_iload hx hb dL_law_142 (lv_at hl 0 rfl) ?_
  refine lv_iconst (v := nI 5) hx hb dL_law_144 (by decide) ?_
  refine n_add hx hb dL_law_145 ?_
  refine va_sld hx hb hX hbl hbA hS (vp_in_nI (show i + 5 < L by omega) (by omega)) dL_law_146 ?_
  refine lx_i (As := [.int (xs (nI (i + 1)).toNatClampNeg), .int (xs (nI (i + 2)).toNatClampNeg), .int (xs (nI (i + 3)).toNatClampNeg), .int (xs (nI (i + 4)).toNatClampNeg), .int (xs (nI (i + 5)).toNatClampNeg)]) (rest := []) ⟨hx, hb, hml, hown, hts⟩ hMx (okR_cw 5 okx hts ngL_law_X3_put rfl (by decide +kernel) (by decide)) hf hK hZ hP hD hS hA rfl hl.1 rfl (Nat.le_of_ble_eq_true rfl) dL_law_147 (fun H locs hP hD hS => ?_)
  refine lv_aload_n hx hb dL_law_150 rfl (lv_at hl 3 rfl) ?_
  refine lv_aload_n hx hb dL_law_151 rfl (lv_at hl 1 rfl) ?_
  refine lv_iload hx hb dL_law_152 (lv_at hl 0 rfl) ?_
  refine lv_iconst (v := nI 1) hx hb dL_law_154 (by decide) ?_
  refine n_add hx hb dL_law_155 ?_
  refine va_sld hx hb hX hbl hbA hS (vp_in_nI (show i + 1 < L by omega) (by omega)) dL_law_156 ?_
  refine lv_aload_n hx hb dL_law_157 rfl (lv_at hl 1 rfl) ?_
  refine lv_iload hx hb dL_law_158 (lv_at hl 0 rfl) ?_
  refine lv_iconst (v := nI 2) hx hb dL_law_160 (by decide) ?_
  refine n_add hx hb dL_law_161 ?_
  refine va_sld hx hb hX hbl hbA hS (vp_in_nI (show i + 2 < L by omega) (by omega)) dL_law_162 ?_
  refine lv_aload_n hx hb dL_law_163 rfl (lv_at hl 1 rfl) ?_
  refine lv_iload hx hb dL_law_164 (lv_at hl 0 rfl) ?_
  refine lv_iconst (v := nI 3) hx hb dL_law_166 (by decide) ?_
  refine n_add hx hb dL_law_167 ?_
  refine va_sld hx hb hX hbl hbA hS (vp_in_nI (show i + 3 < L by omega) (by omega)) dL_law_168 ?_
  refine lv_aload_n hx hb dL_law_169 rfl (lv_at hl 1 rfl) ?_
  refine lv_iload hx hb dL_law_170 (lv_at hl 0 rfl) ?_
  refine lv_iconst (v := nI 4) hx hb dL_law_172 (by decide) ?_
  refine n_add hx hb dL_law_173 ?_
  refine va_sld hx hb hX hbl hbA hS (vp_in_nI (show i + 4 < L by omega) (by omega)) dL_law_174 ?_
  refine lv_aload_n hx hb dL_law_175 rfl (lv_at hl 1 rfl) ?_
  refine lv_iload hx hb dL_law_176 (lv_at hl 0 rfl) ?_
  refine lv_iconst (v := nI 5) hx hb dL_law_178 (by decide) ?_
  refine n_add hx hb dL_law_179 ?_
  refine va_sld hx hb hX hbl hbA hS (vp_in_nI (show i + 5 < L by omega) (by omega)) dL_law_180 ?_
  refine lm_i (As := [.int (xs (nI (i + 1)).toNatClampNeg), .int (xs (nI (i + 2)).toNatClampNeg), .int (xs (nI (i + 3)).toNatClampNeg), .int (xs (nI (i + 4)).toNatClampNeg), .int (xs (nI (i + 5)).toNatClampNeg)]) (rest := [.int r]) ⟨hx, hb, hml, hown, hts⟩ hMw (okR_cw 5 okw hts ngL_law_X4_put rfl (by decide +kernel) (by decide)) hf hK hZ hP hD hS hA rfl hl.1 rfl (Nat.le_of_ble_eq_true rfl) dL_law_181 (fun H locs hP hD hS => ?_)
  refine lv_icmp_eq (tgt := 729) hx hb dL_law_184 (by decide) (fun _ => ?_) (fun z => absurd rfl z)
  refine W.widen (k := cells + 1) (n := slots + 6) (Nat.le_add_right _ _) (Nat.le_add_right _ _) ?_
  exact kk x' w' f H locs ls ho hcy hP hD hS hl
set_option maxHeartbeats 4000000 in
set_option maxRecDepth 100000 in
theorem lc_units {p : Program} {e : Env} {s : State} {m : MethodId} {below : List Frame} {meth : Method} {c : Code} {l : Launch} (hl0 : l.stackTraces = false) {sb L : Nat} {xs : Nat → Int32} (C0 : lw_At p s m meth c sb L xs) {A : Nat → Prop} (hA : ∀ q, s.heap.size ≤ q → A q) (hbA : ¬ A sb)
    {dC : Nat → ClassId} {dI : Nat → Nat → Nat} {a b : Nat → Nat} {o : Nat} {cI cL cZ : ClassId} (hK : va_K (dC, dI) vwCl (gT cI cL cZ) s) (hZ : gZ A s s.heap) (hG : gX A s s.heap) {x w : gSt} {f : Nat → Int64} (h : rObs x w) (hc : x.1 22 0 ≤ 1597000) {i : Nat} (hi : i + 6 ≤ L) (hL : L ≤ 3072)
    {H : Heap} {locs : List Loc} {ls : Array Slot} {cells slots : Nat} (hcs : cells + 1 ≤ room_1.cells ∧ slots + 6 ≤ room_1.slots) (hP : va_P (dC, dI) vwCl (lW a b o cI cL cZ x w f) H) (hD : va_D A (lW a b o cI cL cZ x w f)) (hS : va_S A s.heap H locs) (hl : lv_has ls 8 [(4, .int (nI i)), (0, .ref sb), (1, .ref (a 0)), (2, .ref (b 0)), (3, .ref o)]) {Q : State → Prop}
    (kk : ∀ (x' w' : gSt) (g : Nat → Int64) (H1 : Heap) (locs1 : List Loc) (ls1 : Array Slot), rObs x' w' → x'.1 22 0 ≤ x.1 22 0 + 3000 → va_P (dC, dI) vwCl (lW a b o cI cL cZ x' w' g) H1 → va_D A (lW a b o cI cL cZ x' w' g) → va_S A s.heap H1 locs1 → lv_has ls1 8 [(4, .int (nI i)), (0, .ref sb), (1, .ref (a 0)), (2, .ref (b 0)), (3, .ref o)] → W p l e room_1 s m #[Value.ref sb] below meth c H1 locs1 (cells + 1) (slots + 6) Q (F0 m 729 ls1 [])) :
    W p l e room_1 s m #[Value.ref sb] below meth c H locs cells slots Q (F0 m 189 ls []) := by
  obtain ⟨hx, hb, hr, hml, hown, hts0, hX, hbl, hlocks, -⟩ := C0
  have hts : ∀ w ∈ wsN_law, w.before #[Value.ref sb] s = true := fun w h => hts0 w (wsN_law_in w h)
  have hown : s.vm.findClass RL = some m.cls := hown
  have hf : cells ≤ room_1.cells ∧ slots ≤ room_1.slots := ⟨Nat.le_of_succ_le hcs.1, Nat.le_trans (Nat.le_add_right _ 6) hcs.2⟩
  obtain ⟨r, x', w', rx, rw, ho, hcy, okx, okw, hMx, hMw⟩ := p_units l dC dI a b cI cL cZ h hc (xs (nI (i + 1)).toNatClampNeg) (xs (nI (i + 2)).toNatClampNeg)
  refine lv_aload_n hx hb dL_law_189 rfl (lv_at hl 2 rfl) ?_
  refine lv_aload_n hx hb dL_law_190 rfl (lv_at hl 1 rfl) ?_
  refine lv_iload hx hb dL_law_191 (lv_at hl 0 rfl) ?_
  refine lv_iconst (v := nI 1) hx hb dL_law_193 (by decide) ?_
  refine n_add hx hb dL_law_194 ?_
  refine va_sld hx hb hX hbl hbA hS (vp_in_nI (show i + 1 < L by omega) (by omega)) dL_law_195 ?_
  refine lv_aload_n hx hb dL_law_196 rfl (lv_at hl 1 rfl) ?_
  refine lv_iload hx hb dL_law_197 (lv_at hl 0 rfl) ?_
  refine lv_iconst (v := nI 2) hx hb dL_law_199 (by decide) ?_
  refine n_add hx hb dL_law_200 ?_
  refine va_sld hx hb hX hbl hbA hS (vp_in_nI (show i + 2 < L by omega) (by omega)) dL_law_201 ?_
  refine lx_i (As := [.int (xs (nI (i + 1)).toNatClampNeg), .int (xs (nI (i + 2)).toNatClampNeg)]) (rest := []) ⟨hx, hb, hml, hown, hts⟩ hMx (okR_cw 2 okx hts ngL_law_X3_units rfl (by decide +kernel) (by decide)) hf hK hZ hP hD hS hA rfl hl.1 rfl (Nat.le_of_ble_eq_true rfl) dL_law_202 (fun H locs hP hD hS => ?_)
  refine lv_aload_n hx hb dL_law_205 rfl (lv_at hl 3 rfl) ?_
  refine lv_aload_n hx hb dL_law_206 rfl (lv_at hl 1 rfl) ?_
  refine lv_iload hx hb dL_law_207 (lv_at hl 0 rfl) ?_
  refine lv_iconst (v := nI 1) hx hb dL_law_209 (by decide) ?_
  refine n_add hx hb dL_law_210 ?_
  refine va_sld hx hb hX hbl hbA hS (vp_in_nI (show i + 1 < L by omega) (by omega)) dL_law_211 ?_
  refine lv_aload_n hx hb dL_law_212 rfl (lv_at hl 1 rfl) ?_
  refine lv_iload hx hb dL_law_213 (lv_at hl 0 rfl) ?_
  refine lv_iconst (v := nI 2) hx hb dL_law_215 (by decide) ?_
  refine n_add hx hb dL_law_216 ?_
  refine va_sld hx hb hX hbl hbA hS (vp_in_nI (show i + 2 < L by omega) (by omega)) dL_law_217 ?_
  refine lm_i (As := [.int (xs (nI (i + 1)).toNatClampNeg), .int (xs (nI (i + 2)).toNatClampNeg)]) (rest := [.int r]) ⟨hx, hb, hml, hown, hts⟩ hMw (okR_cw 2 okw hts ngL_law_X4_units rfl (by decide +kernel) (by decide)) hf hK hZ hP hD hS hA rfl hl.1 rfl (Nat.le_of_ble_eq_true rfl) dL_law_218 (fun H locs hP hD hS => ?_)
  refine lv_icmp_eq (tgt := 729) hx hb dL_law_221 (by decide) (fun _ => ?_) (fun z => absurd rfl z)
  refine W.widen (k := cells + 1) (n := slots + 6) (Nat.le_add_right _ _) (Nat.le_add_right _ _) ?_
  exact kk x' w' f H locs ls ho hcy hP hD hS hl
set_option maxHeartbeats 4000000 in
set_option maxRecDepth 100000 in
theorem lc_latency {p : Program} {e : Env} {s : State} {m : MethodId} {below : List Frame} {meth : Method} {c : Code} {l : Launch} (hl0 : l.stackTraces = false) {sb L : Nat} {xs : Nat → Int32} (C0 : lw_At p s m meth c sb L xs) {A : Nat → Prop} (hA : ∀ q, s.heap.size ≤ q → A q) (hbA : ¬ A sb)
    {dC : Nat → ClassId} {dI : Nat → Nat → Nat} {a b : Nat → Nat} {o : Nat} {cI cL cZ : ClassId} (hK : va_K (dC, dI) vwCl (gT cI cL cZ) s) (hZ : gZ A s s.heap) (hG : gX A s s.heap) {x w : gSt} {f : Nat → Int64} (h : rObs x w) (hc : x.1 22 0 ≤ 1597000) {i : Nat} (hi : i + 6 ≤ L) (hL : L ≤ 3072)
    {H : Heap} {locs : List Loc} {ls : Array Slot} {cells slots : Nat} (hcs : cells + 1 ≤ room_1.cells ∧ slots + 6 ≤ room_1.slots) (hP : va_P (dC, dI) vwCl (lW a b o cI cL cZ x w f) H) (hD : va_D A (lW a b o cI cL cZ x w f)) (hS : va_S A s.heap H locs) (hl : lv_has ls 8 [(4, .int (nI i)), (0, .ref sb), (1, .ref (a 0)), (2, .ref (b 0)), (3, .ref o)]) {Q : State → Prop}
    (kk : ∀ (x' w' : gSt) (g : Nat → Int64) (H1 : Heap) (locs1 : List Loc) (ls1 : Array Slot), rObs x' w' → x'.1 22 0 ≤ x.1 22 0 + 3000 → va_P (dC, dI) vwCl (lW a b o cI cL cZ x' w' g) H1 → va_D A (lW a b o cI cL cZ x' w' g) → va_S A s.heap H1 locs1 → lv_has ls1 8 [(4, .int (nI i)), (0, .ref sb), (1, .ref (a 0)), (2, .ref (b 0)), (3, .ref o)] → W p l e room_1 s m #[Value.ref sb] below meth c H1 locs1 (cells + 1) (slots + 6) Q (F0 m 729 ls1 [])) :
    W p l e room_1 s m #[Value.ref sb] below meth c H locs cells slots Q (F0 m 226 ls []) := by
  obtain ⟨hx, hb, hr, hml, hown, hts0, hX, hbl, hlocks, -⟩ := C0
  have hts : ∀ w ∈ wsN_law, w.before #[Value.ref sb] s = true := fun w h => hts0 w (wsN_law_in w h)
  have hown : s.vm.findClass RL = some m.cls := hown
  have hf : cells ≤ room_1.cells ∧ slots ≤ room_1.slots := ⟨Nat.le_of_succ_le hcs.1, Nat.le_trans (Nat.le_add_right _ 6) hcs.2⟩
  obtain ⟨r, x', w', rx, rw, ho, hcy, okx, okw, hMx, hMw⟩ := p_latency l dC dI a b cI cL cZ h hc (xs (nI (i + 1)).toNatClampNeg) (xs (nI (i + 2)).toNatClampNeg)
  refine lv_aload_n hx hb dL_law_226 rfl (lv_at hl 2 rfl) ?_
  refine lv_aload_n hx hb dL_law_227 rfl (lv_at hl 1 rfl) ?_
  refine lv_iload hx hb dL_law_228 (lv_at hl 0 rfl) ?_
  refine lv_iconst (v := nI 1) hx hb dL_law_230 (by decide) ?_
  refine n_add hx hb dL_law_231 ?_
  refine va_sld hx hb hX hbl hbA hS (vp_in_nI (show i + 1 < L by omega) (by omega)) dL_law_232 ?_
  refine lv_aload_n hx hb dL_law_233 rfl (lv_at hl 1 rfl) ?_
  refine lv_iload hx hb dL_law_234 (lv_at hl 0 rfl) ?_
  refine lv_iconst (v := nI 2) hx hb dL_law_236 (by decide) ?_
  refine n_add hx hb dL_law_237 ?_
  refine va_sld hx hb hX hbl hbA hS (vp_in_nI (show i + 2 < L by omega) (by omega)) dL_law_238 ?_
  refine lx_i (As := [.int (xs (nI (i + 1)).toNatClampNeg), .int (xs (nI (i + 2)).toNatClampNeg)]) (rest := []) ⟨hx, hb, hml, hown, hts⟩ hMx (okR_cw 2 okx hts ngL_law_X3_latency rfl (by decide +kernel) (by decide)) hf hK hZ hP hD hS hA rfl hl.1 rfl (Nat.le_of_ble_eq_true rfl) dL_law_239 (fun H locs hP hD hS => ?_)
  refine lv_aload_n hx hb dL_law_242 rfl (lv_at hl 3 rfl) ?_
  refine lv_aload_n hx hb dL_law_243 rfl (lv_at hl 1 rfl) ?_
  refine lv_iload hx hb dL_law_244 (lv_at hl 0 rfl) ?_
  refine lv_iconst (v := nI 1) hx hb dL_law_246 (by decide) ?_
  refine n_add hx hb dL_law_247 ?_
  refine va_sld hx hb hX hbl hbA hS (vp_in_nI (show i + 1 < L by omega) (by omega)) dL_law_248 ?_
  refine lv_aload_n hx hb dL_law_249 rfl (lv_at hl 1 rfl) ?_
  refine lv_iload hx hb dL_law_250 (lv_at hl 0 rfl) ?_
  refine lv_iconst (v := nI 2) hx hb dL_law_252 (by decide) ?_
  refine n_add hx hb dL_law_253 ?_
  refine va_sld hx hb hX hbl hbA hS (vp_in_nI (show i + 2 < L by omega) (by omega)) dL_law_254 ?_
  refine lm_i (As := [.int (xs (nI (i + 1)).toNatClampNeg), .int (xs (nI (i + 2)).toNatClampNeg)]) (rest := [.int r]) ⟨hx, hb, hml, hown, hts⟩ hMw (okR_cw 2 okw hts ngL_law_X4_latency rfl (by decide +kernel) (by decide)) hf hK hZ hP hD hS hA rfl hl.1 rfl (Nat.le_of_ble_eq_true rfl) dL_law_255 (fun H locs hP hD hS => ?_)
  refine lv_icmp_eq (tgt := 729) hx hb dL_law_258 (by decide) (fun _ => ?_) (fun z => absurd rfl z)
  refine W.widen (k := cells + 1) (n := slots + 6) (Nat.le_add_right _ _) (Nat.le_add_right _ _) ?_
  exact kk x' w' f H locs ls ho hcy hP hD hS hl
set_option maxHeartbeats 4000000 in
set_option maxRecDepth 100000 in
theorem lc_width {p : Program} {e : Env} {s : State} {m : MethodId} {below : List Frame} {meth : Method} {c : Code} {l : Launch} (hl0 : l.stackTraces = false) {sb L : Nat} {xs : Nat → Int32} (C0 : lw_At p s m meth c sb L xs) {A : Nat → Prop} (hA : ∀ q, s.heap.size ≤ q → A q) (hbA : ¬ A sb)
    {dC : Nat → ClassId} {dI : Nat → Nat → Nat} {a b : Nat → Nat} {o : Nat} {cI cL cZ : ClassId} (hK : va_K (dC, dI) vwCl (gT cI cL cZ) s) (hZ : gZ A s s.heap) (hG : gX A s s.heap) {x w : gSt} {f : Nat → Int64} (h : rObs x w) (hc : x.1 22 0 ≤ 1597000) {i : Nat} (hi : i + 6 ≤ L) (hL : L ≤ 3072)
    {H : Heap} {locs : List Loc} {ls : Array Slot} {cells slots : Nat} (hcs : cells + 1 ≤ room_1.cells ∧ slots + 6 ≤ room_1.slots) (hP : va_P (dC, dI) vwCl (lW a b o cI cL cZ x w f) H) (hD : va_D A (lW a b o cI cL cZ x w f)) (hS : va_S A s.heap H locs) (hl : lv_has ls 8 [(4, .int (nI i)), (0, .ref sb), (1, .ref (a 0)), (2, .ref (b 0)), (3, .ref o)]) {Q : State → Prop}
    (kk : ∀ (x' w' : gSt) (g : Nat → Int64) (H1 : Heap) (locs1 : List Loc) (ls1 : Array Slot), rObs x' w' → x'.1 22 0 ≤ x.1 22 0 + 3000 → va_P (dC, dI) vwCl (lW a b o cI cL cZ x' w' g) H1 → va_D A (lW a b o cI cL cZ x' w' g) → va_S A s.heap H1 locs1 → lv_has ls1 8 [(4, .int (nI i)), (0, .ref sb), (1, .ref (a 0)), (2, .ref (b 0)), (3, .ref o)] → W p l e room_1 s m #[Value.ref sb] below meth c H1 locs1 (cells + 1) (slots + 6) Q (F0 m 729 ls1 [])) :
    W p l e room_1 s m #[Value.ref sb] below meth c H locs cells slots Q (F0 m 263 ls []) := by
  obtain ⟨hx, hb, hr, hml, hown, hts0, hX, hbl, hlocks, -⟩ := C0
  have hts : ∀ w ∈ wsN_law, w.before #[Value.ref sb] s = true := fun w h => hts0 w (wsN_law_in w h)
  have hown : s.vm.findClass RL = some m.cls := hown
  have hf : cells ≤ room_1.cells ∧ slots ≤ room_1.slots := ⟨Nat.le_of_succ_le hcs.1, Nat.le_trans (Nat.le_add_right _ 6) hcs.2⟩
  obtain ⟨r, x', w', rx, rw, ho, hcy, okx, okw, hMx, hMw⟩ := p_width l dC dI a b cI cL cZ h hc (xs (nI (i + 1)).toNatClampNeg)
  refine lv_aload_n hx hb dL_law_263 rfl (lv_at hl 2 rfl) ?_
  refine lv_aload_n hx hb dL_law_264 rfl (lv_at hl 1 rfl) ?_
  refine lv_iload hx hb dL_law_265 (lv_at hl 0 rfl) ?_
  refine lv_iconst (v := nI 1) hx hb dL_law_267 (by decide) ?_
  refine n_add hx hb dL_law_268 ?_
  refine va_sld hx hb hX hbl hbA hS (vp_in_nI (show i + 1 < L by omega) (by omega)) dL_law_269 ?_
  refine lx_i (As := [.int (xs (nI (i + 1)).toNatClampNeg)]) (rest := []) ⟨hx, hb, hml, hown, hts⟩ hMx (okR_cw 1 okx hts ngL_law_X3_width rfl (by decide +kernel) (by decide)) hf hK hZ hP hD hS hA rfl hl.1 rfl (Nat.le_of_ble_eq_true rfl) dL_law_270 (fun H locs hP hD hS => ?_)
  refine lv_aload_n hx hb dL_law_273 rfl (lv_at hl 3 rfl) ?_
  refine lv_aload_n hx hb dL_law_274 rfl (lv_at hl 1 rfl) ?_
  refine lv_iload hx hb dL_law_275 (lv_at hl 0 rfl) ?_
  refine lv_iconst (v := nI 1) hx hb dL_law_277 (by decide) ?_
  refine n_add hx hb dL_law_278 ?_
  refine va_sld hx hb hX hbl hbA hS (vp_in_nI (show i + 1 < L by omega) (by omega)) dL_law_279 ?_
  refine lm_i (As := [.int (xs (nI (i + 1)).toNatClampNeg)]) (rest := [.int r]) ⟨hx, hb, hml, hown, hts⟩ hMw (okR_cw 1 okw hts ngL_law_X4_width rfl (by decide +kernel) (by decide)) hf hK hZ hP hD hS hA rfl hl.1 rfl (Nat.le_of_ble_eq_true rfl) dL_law_280 (fun H locs hP hD hS => ?_)
  refine lv_icmp_eq (tgt := 729) hx hb dL_law_283 (by decide) (fun _ => ?_) (fun z => absurd rfl z)
  refine W.widen (k := cells + 1) (n := slots + 6) (Nat.le_add_right _ _) (Nat.le_add_right _ _) ?_
  exact kk x' w' f H locs ls ho hcy hP hD hS hl
set_option maxHeartbeats 4000000 in
set_option maxRecDepth 100000 in
theorem lc_set {p : Program} {e : Env} {s : State} {m : MethodId} {below : List Frame} {meth : Method} {c : Code} {l : Launch} (hl0 : l.stackTraces = false) {sb L : Nat} {xs : Nat → Int32} (C0 : lw_At p s m meth c sb L xs) {A : Nat → Prop} (hA : ∀ q, s.heap.size ≤ q → A q) (hbA : ¬ A sb)
    {dC : Nat → ClassId} {dI : Nat → Nat → Nat} {a b : Nat → Nat} {o : Nat} {cI cL cZ : ClassId} (hK : va_K (dC, dI) vwCl (gT cI cL cZ) s) (hZ : gZ A s s.heap) (hG : gX A s s.heap) {x w : gSt} {f : Nat → Int64} (h : rObs x w) (hc : x.1 22 0 ≤ 1597000) {i : Nat} (hi : i + 6 ≤ L) (hL : L ≤ 3072)
    {H : Heap} {locs : List Loc} {ls : Array Slot} {cells slots : Nat} (hcs : cells + 1 ≤ room_1.cells ∧ slots + 6 ≤ room_1.slots) (hP : va_P (dC, dI) vwCl (lW a b o cI cL cZ x w f) H) (hD : va_D A (lW a b o cI cL cZ x w f)) (hS : va_S A s.heap H locs) (hl : lv_has ls 8 [(4, .int (nI i)), (0, .ref sb), (1, .ref (a 0)), (2, .ref (b 0)), (3, .ref o)]) {Q : State → Prop}
    (kk : ∀ (x' w' : gSt) (g : Nat → Int64) (H1 : Heap) (locs1 : List Loc) (ls1 : Array Slot), rObs x' w' → x'.1 22 0 ≤ x.1 22 0 + 3000 → va_P (dC, dI) vwCl (lW a b o cI cL cZ x' w' g) H1 → va_D A (lW a b o cI cL cZ x' w' g) → va_S A s.heap H1 locs1 → lv_has ls1 8 [(4, .int (nI i)), (0, .ref sb), (1, .ref (a 0)), (2, .ref (b 0)), (3, .ref o)] → W p l e room_1 s m #[Value.ref sb] below meth c H1 locs1 (cells + 1) (slots + 6) Q (F0 m 729 ls1 [])) :
    W p l e room_1 s m #[Value.ref sb] below meth c H locs cells slots Q (F0 m 288 ls []) := by
  obtain ⟨hx, hb, hr, hml, hown, hts0, hX, hbl, hlocks, -⟩ := C0
  have hts : ∀ w ∈ wsN_law, w.before #[Value.ref sb] s = true := fun w h => hts0 w (wsN_law_in w h)
  have hown : s.vm.findClass RL = some m.cls := hown
  have hf : cells ≤ room_1.cells ∧ slots ≤ room_1.slots := ⟨Nat.le_of_succ_le hcs.1, Nat.le_trans (Nat.le_add_right _ 6) hcs.2⟩
  obtain ⟨r, x', w', rx, rw, ho, hcy, okx, okw, hMx, hMw⟩ := p_set l dC dI a b cI cL cZ h hc (xs (nI (i + 1)).toNatClampNeg) (xs (nI (i + 2)).toNatClampNeg) ((xs (nI (i + 3)).toNatClampNeg).toInt64 <<< ((nI 32).toInt64 &&& 63) ||| ((xs (nI (i + 4)).toNatClampNeg).toInt64 &&& 4294967295))
  refine lv_aload_n hx hb dL_law_288 rfl (lv_at hl 2 rfl) ?_
  refine lv_aload_n hx hb dL_law_289 rfl (lv_at hl 1 rfl) ?_
  refine lv_iload hx hb dL_law_290 (lv_at hl 0 rfl) ?_
  refine lv_iconst (v := nI 1) hx hb dL_law_292 (by decide) ?_
  refine n_add hx hb dL_law_293 ?_
  refine va_sld hx hb hX hbl hbA hS (vp_in_nI (show i + 1 < L by omega) (by omega)) dL_law_294 ?_
  refine lv_aload_n hx hb dL_law_295 rfl (lv_at hl 1 rfl) ?_
  refine lv_iload hx hb dL_law_296 (lv_at hl 0 rfl) ?_
  refine lv_iconst (v := nI 2) hx hb dL_law_298 (by decide) ?_
  refine n_add hx hb dL_law_299 ?_
  refine va_sld hx hb hX hbl hbA hS (vp_in_nI (show i + 2 < L by omega) (by omega)) dL_law_300 ?_
  refine lv_aload_n hx hb dL_law_301 rfl (lv_at hl 1 rfl) ?_
  refine lv_iload hx hb dL_law_302 (lv_at hl 0 rfl) ?_
  refine lv_iconst (v := nI 3) hx hb dL_law_304 (by decide) ?_
  refine n_add hx hb dL_law_305 ?_
  refine va_sld hx hb hX hbl hbA hS (vp_in_nI (show i + 3 < L by omega) (by omega)) dL_law_306 ?_
  refine lv_i2l hx hb dL_law_307 rfl ?_
  refine lv_bipush (v := nI 32) hx hb dL_law_308 (by decide) ?_
  refine lv_lshl hx hb dL_law_310 rfl ?_
  refine lv_aload_n hx hb dL_law_311 rfl (lv_at hl 1 rfl) ?_
  refine lv_iload hx hb dL_law_312 (lv_at hl 0 rfl) ?_
  refine lv_iconst (v := nI 4) hx hb dL_law_314 (by decide) ?_
  refine n_add hx hb dL_law_315 ?_
  refine va_sld hx hb hX hbl hbA hS (vp_in_nI (show i + 4 < L by omega) (by omega)) dL_law_316 ?_
  refine lv_i2l hx hb dL_law_317 rfl ?_
  refine lv_ldc2 hx hb hown (hts (.constantLong RL 45 4294967295) (by decide +kernel)) dL_law_318 ?_
  refine lv_land hx hb dL_law_321 ?_
  refine lv_lor hx hb dL_law_322 ?_
  refine lx_i (As := [.int (xs (nI (i + 1)).toNatClampNeg), .int (xs (nI (i + 2)).toNatClampNeg), .long ((xs (nI (i + 3)).toNatClampNeg).toInt64 <<< ((nI 32).toInt64 &&& 63) ||| ((xs (nI (i + 4)).toNatClampNeg).toInt64 &&& 4294967295))]) (rest := []) ⟨hx, hb, hml, hown, hts⟩ hMx (okR_cw 3 okx hts ngL_law_X3_set rfl (by decide +kernel) (by decide)) hf hK hZ hP hD hS hA rfl hl.1 rfl (Nat.le_of_ble_eq_true rfl) dL_law_323 (fun H locs hP hD hS => ?_)
  refine lv_aload_n hx hb dL_law_326 rfl (lv_at hl 3 rfl) ?_
  refine lv_aload_n hx hb dL_law_327 rfl (lv_at hl 1 rfl) ?_
  refine lv_iload hx hb dL_law_328 (lv_at hl 0 rfl) ?_
  refine lv_iconst (v := nI 1) hx hb dL_law_330 (by decide) ?_
  refine n_add hx hb dL_law_331 ?_
  refine va_sld hx hb hX hbl hbA hS (vp_in_nI (show i + 1 < L by omega) (by omega)) dL_law_332 ?_
  refine lv_aload_n hx hb dL_law_333 rfl (lv_at hl 1 rfl) ?_
  refine lv_iload hx hb dL_law_334 (lv_at hl 0 rfl) ?_
  refine lv_iconst (v := nI 2) hx hb dL_law_336 (by decide) ?_
  refine n_add hx hb dL_law_337 ?_
  refine va_sld hx hb hX hbl hbA hS (vp_in_nI (show i + 2 < L by omega) (by omega)) dL_law_338 ?_
  refine lv_aload_n hx hb dL_law_339 rfl (lv_at hl 1 rfl) ?_
  refine lv_iload hx hb dL_law_340 (lv_at hl 0 rfl) ?_
  refine lv_iconst (v := nI 3) hx hb dL_law_342 (by decide) ?_
  refine n_add hx hb dL_law_343 ?_
  refine va_sld hx hb hX hbl hbA hS (vp_in_nI (show i + 3 < L by omega) (by omega)) dL_law_344 ?_
  refine lv_i2l hx hb dL_law_345 rfl ?_
  refine lv_bipush (v := nI 32) hx hb dL_law_346 (by decide) ?_
  refine lv_lshl hx hb dL_law_348 rfl ?_
  refine lv_aload_n hx hb dL_law_349 rfl (lv_at hl 1 rfl) ?_
  refine lv_iload hx hb dL_law_350 (lv_at hl 0 rfl) ?_
  refine lv_iconst (v := nI 4) hx hb dL_law_352 (by decide) ?_
  refine n_add hx hb dL_law_353 ?_
  refine va_sld hx hb hX hbl hbA hS (vp_in_nI (show i + 4 < L by omega) (by omega)) dL_law_354 ?_
  refine lv_i2l hx hb dL_law_355 rfl ?_
  refine lv_ldc2 hx hb hown (hts (.constantLong RL 45 4294967295) (by decide +kernel)) dL_law_356 ?_
  refine lv_land hx hb dL_law_359 ?_
  refine lv_lor hx hb dL_law_360 ?_
  refine lm_i (As := [.int (xs (nI (i + 1)).toNatClampNeg), .int (xs (nI (i + 2)).toNatClampNeg), .long ((xs (nI (i + 3)).toNatClampNeg).toInt64 <<< ((nI 32).toInt64 &&& 63) ||| ((xs (nI (i + 4)).toNatClampNeg).toInt64 &&& 4294967295))]) (rest := [.int r]) ⟨hx, hb, hml, hown, hts⟩ hMw (okR_cw 3 okw hts ngL_law_X4_set rfl (by decide +kernel) (by decide)) hf hK hZ hP hD hS hA rfl hl.1 rfl (Nat.le_of_ble_eq_true rfl) dL_law_361 (fun H locs hP hD hS => ?_)
  refine lv_icmp_eq (tgt := 729) hx hb dL_law_364 (by decide) (fun _ => ?_) (fun z => absurd rfl z)
  refine W.widen (k := cells + 1) (n := slots + 6) (Nat.le_add_right _ _) (Nat.le_add_right _ _) ?_
  exact kk x' w' f H locs ls ho hcy hP hD hS hl
set_option maxHeartbeats 4000000 in
set_option maxRecDepth 100000 in
theorem lc_run {p : Program} {e : Env} {s : State} {m : MethodId} {below : List Frame} {meth : Method} {c : Code} {l : Launch} (hl0 : l.stackTraces = false) {sb L : Nat} {xs : Nat → Int32} (C0 : lw_At p s m meth c sb L xs) {A : Nat → Prop} (hA : ∀ q, s.heap.size ≤ q → A q) (hbA : ¬ A sb)
    {dC : Nat → ClassId} {dI : Nat → Nat → Nat} {a b : Nat → Nat} {o : Nat} {cI cL cZ : ClassId} (hK : va_K (dC, dI) vwCl (gT cI cL cZ) s) (hZ : gZ A s s.heap) (hG : gX A s s.heap) {x w : gSt} {f : Nat → Int64} (h : rObs x w) (hc : x.1 22 0 ≤ 1597000) {i : Nat} (hi : i + 6 ≤ L) (hL : L ≤ 3072)
    {H : Heap} {locs : List Loc} {ls : Array Slot} {cells slots : Nat} (hcs : cells + 1 ≤ room_1.cells ∧ slots + 6 ≤ room_1.slots) (hP : va_P (dC, dI) vwCl (lW a b o cI cL cZ x w f) H) (hD : va_D A (lW a b o cI cL cZ x w f)) (hS : va_S A s.heap H locs) (hl : lv_has ls 8 [(4, .int (nI i)), (0, .ref sb), (1, .ref (a 0)), (2, .ref (b 0)), (3, .ref o)]) {Q : State → Prop}
    (kk : ∀ (x' w' : gSt) (g : Nat → Int64) (H1 : Heap) (locs1 : List Loc) (ls1 : Array Slot), rObs x' w' → x'.1 22 0 ≤ x.1 22 0 + 3000 → va_P (dC, dI) vwCl (lW a b o cI cL cZ x' w' g) H1 → va_D A (lW a b o cI cL cZ x' w' g) → va_S A s.heap H1 locs1 → lv_has ls1 8 [(4, .int (nI i)), (0, .ref sb), (1, .ref (a 0)), (2, .ref (b 0)), (3, .ref o)] → W p l e room_1 s m #[Value.ref sb] below meth c H1 locs1 (cells + 1) (slots + 6) Q (F0 m 729 ls1 [])) :
    W p l e room_1 s m #[Value.ref sb] below meth c H locs cells slots Q (F0 m 369 ls []) := by
  obtain ⟨hx, hb, hr, hml, hown, hts0, hX, hbl, hlocks, -⟩ := C0
  have hts : ∀ w ∈ wsN_law, w.before #[Value.ref sb] s = true := fun w h => hts0 w (wsN_law_in w h)
  have hown : s.vm.findClass RL = some m.cls := hown
  have hf : cells ≤ room_1.cells ∧ slots ≤ room_1.slots := ⟨Nat.le_of_succ_le hcs.1, Nat.le_trans (Nat.le_add_right _ 6) hcs.2⟩
  obtain ⟨r, x', w', rx, rw, ho, hcy, okx, okw, hMx, hMw⟩ := p_run l dC dI a b cI cL cZ h hc (xs (nI (i + 1)).toNatClampNeg)
  refine lv_aload_n hx hb dL_law_369 rfl (lv_at hl 2 rfl) ?_
  refine lv_aload_n hx hb dL_law_370 rfl (lv_at hl 1 rfl) ?_
  refine lv_iload hx hb dL_law_371 (lv_at hl 0 rfl) ?_
  refine lv_iconst (v := nI 1) hx hb dL_law_373 (by decide) ?_
  refine n_add hx hb dL_law_374 ?_
  refine va_sld hx hb hX hbl hbA hS (vp_in_nI (show i + 1 < L by omega) (by omega)) dL_law_375 ?_
  refine lx_i (As := [.int (xs (nI (i + 1)).toNatClampNeg)]) (rest := []) ⟨hx, hb, hml, hown, hts⟩ hMx (okR_cw 1 okx hts ngL_law_X3_run rfl (by decide +kernel) (by decide)) hf hK hZ hP hD hS hA rfl hl.1 rfl (Nat.le_of_ble_eq_true rfl) dL_law_376 (fun H locs hP hD hS => ?_)
  refine lv_aload_n hx hb dL_law_379 rfl (lv_at hl 3 rfl) ?_
  refine lv_aload_n hx hb dL_law_380 rfl (lv_at hl 1 rfl) ?_
  refine lv_iload hx hb dL_law_381 (lv_at hl 0 rfl) ?_
  refine lv_iconst (v := nI 1) hx hb dL_law_383 (by decide) ?_
  refine n_add hx hb dL_law_384 ?_
  refine va_sld hx hb hX hbl hbA hS (vp_in_nI (show i + 1 < L by omega) (by omega)) dL_law_385 ?_
  refine lm_i (As := [.int (xs (nI (i + 1)).toNatClampNeg)]) (rest := [.int r]) ⟨hx, hb, hml, hown, hts⟩ hMw (okR_cw 1 okw hts ngL_law_X4_run rfl (by decide +kernel) (by decide)) hf hK hZ hP hD hS hA rfl hl.1 rfl (Nat.le_of_ble_eq_true rfl) dL_law_386 (fun H locs hP hD hS => ?_)
  refine lv_icmp_eq (tgt := 729) hx hb dL_law_389 (by decide) (fun _ => ?_) (fun z => absurd rfl z)
  refine W.widen (k := cells + 1) (n := slots + 6) (Nat.le_add_right _ _) (Nat.le_add_right _ _) ?_
  exact kk x' w' f H locs ls ho hcy hP hD hS hl
set_option maxHeartbeats 4000000 in
set_option maxRecDepth 100000 in
theorem lc_again {p : Program} {e : Env} {s : State} {m : MethodId} {below : List Frame} {meth : Method} {c : Code} {l : Launch} (hl0 : l.stackTraces = false) {sb L : Nat} {xs : Nat → Int32} (C0 : lw_At p s m meth c sb L xs) {A : Nat → Prop} (hA : ∀ q, s.heap.size ≤ q → A q) (hbA : ¬ A sb)
    {dC : Nat → ClassId} {dI : Nat → Nat → Nat} {a b : Nat → Nat} {o : Nat} {cI cL cZ : ClassId} (hK : va_K (dC, dI) vwCl (gT cI cL cZ) s) (hZ : gZ A s s.heap) (hG : gX A s s.heap) {x w : gSt} {f : Nat → Int64} (h : rObs x w) (hc : x.1 22 0 ≤ 1597000) {i : Nat} (hi : i + 6 ≤ L) (hL : L ≤ 3072)
    {H : Heap} {locs : List Loc} {ls : Array Slot} {cells slots : Nat} (hcs : cells + 1 ≤ room_1.cells ∧ slots + 6 ≤ room_1.slots) (hP : va_P (dC, dI) vwCl (lW a b o cI cL cZ x w f) H) (hD : va_D A (lW a b o cI cL cZ x w f)) (hS : va_S A s.heap H locs) (hl : lv_has ls 8 [(4, .int (nI i)), (0, .ref sb), (1, .ref (a 0)), (2, .ref (b 0)), (3, .ref o)]) {Q : State → Prop}
    (kk : ∀ (x' w' : gSt) (g : Nat → Int64) (H1 : Heap) (locs1 : List Loc) (ls1 : Array Slot), rObs x' w' → x'.1 22 0 ≤ x.1 22 0 + 3000 → va_P (dC, dI) vwCl (lW a b o cI cL cZ x' w' g) H1 → va_D A (lW a b o cI cL cZ x' w' g) → va_S A s.heap H1 locs1 → lv_has ls1 8 [(4, .int (nI i)), (0, .ref sb), (1, .ref (a 0)), (2, .ref (b 0)), (3, .ref o)] → W p l e room_1 s m #[Value.ref sb] below meth c H1 locs1 (cells + 1) (slots + 6) Q (F0 m 729 ls1 [])) :
    W p l e room_1 s m #[Value.ref sb] below meth c H locs cells slots Q (F0 m 394 ls []) := by
  obtain ⟨hx, hb, hr, hml, hown, hts0, hX, hbl, hlocks, -⟩ := C0
  have hts : ∀ w ∈ wsN_law, w.before #[Value.ref sb] s = true := fun w h => hts0 w (wsN_law_in w h)
  have hown : s.vm.findClass RL = some m.cls := hown
  have hf : cells ≤ room_1.cells ∧ slots ≤ room_1.slots := ⟨Nat.le_of_succ_le hcs.1, Nat.le_trans (Nat.le_add_right _ 6) hcs.2⟩
  obtain ⟨x', w', rx, rw, ho, hcy, okx, okw, hMx, hMw⟩ := p_again l dC dI a b cI cL cZ h hc
  refine lv_aload_n hx hb dL_law_394 rfl (lv_at hl 2 rfl) ?_
  refine lx_v (As := []) (rest := []) ⟨hx, hb, hml, hown, hts⟩ hMx (okR_cw 0 okx hts ngL_law_X3_again rfl (by decide +kernel) (by decide)) hf hK hZ hP hD hS hA rfl hl.1 rfl (Nat.le_of_ble_eq_true rfl) dL_law_395 (fun H locs hP hD hS => ?_)
  refine lv_aload_n hx hb dL_law_398 rfl (lv_at hl 3 rfl) ?_
  refine lm_v (As := []) (rest := []) ⟨hx, hb, hml, hown, hts⟩ hMw (okR_cw 0 okw hts ngL_law_X4_again rfl (by decide +kernel) (by decide)) hf hK hZ hP hD hS hA rfl hl.1 rfl (Nat.le_of_ble_eq_true rfl) dL_law_399 (fun H locs hP hD hS => ?_)
  refine lv_goto (tgt := 729) hx hb dL_law_402 (by decide) ?_
  refine W.widen (k := cells + 1) (n := slots + 6) (Nat.le_add_right _ _) (Nat.le_add_right _ _) ?_
  exact kk x' w' f H locs ls ho hcy hP hD hS hl
set_option maxHeartbeats 4000000 in
set_option maxRecDepth 100000 in
theorem lc_clear {p : Program} {e : Env} {s : State} {m : MethodId} {below : List Frame} {meth : Method} {c : Code} {l : Launch} (hl0 : l.stackTraces = false) {sb L : Nat} {xs : Nat → Int32} (C0 : lw_At p s m meth c sb L xs) {A : Nat → Prop} (hA : ∀ q, s.heap.size ≤ q → A q) (hbA : ¬ A sb)
    {dC : Nat → ClassId} {dI : Nat → Nat → Nat} {a b : Nat → Nat} {o : Nat} {cI cL cZ : ClassId} (hK : va_K (dC, dI) vwCl (gT cI cL cZ) s) (hZ : gZ A s s.heap) (hG : gX A s s.heap) {x w : gSt} {f : Nat → Int64} (h : rObs x w) (hc : x.1 22 0 ≤ 1597000) {i : Nat} (hi : i + 6 ≤ L) (hL : L ≤ 3072)
    {H : Heap} {locs : List Loc} {ls : Array Slot} {cells slots : Nat} (hcs : cells + 1 ≤ room_1.cells ∧ slots + 6 ≤ room_1.slots) (hP : va_P (dC, dI) vwCl (lW a b o cI cL cZ x w f) H) (hD : va_D A (lW a b o cI cL cZ x w f)) (hS : va_S A s.heap H locs) (hl : lv_has ls 8 [(4, .int (nI i)), (0, .ref sb), (1, .ref (a 0)), (2, .ref (b 0)), (3, .ref o)]) {Q : State → Prop}
    (kk : ∀ (x' w' : gSt) (g : Nat → Int64) (H1 : Heap) (locs1 : List Loc) (ls1 : Array Slot), rObs x' w' → x'.1 22 0 ≤ x.1 22 0 + 3000 → va_P (dC, dI) vwCl (lW a b o cI cL cZ x' w' g) H1 → va_D A (lW a b o cI cL cZ x' w' g) → va_S A s.heap H1 locs1 → lv_has ls1 8 [(4, .int (nI i)), (0, .ref sb), (1, .ref (a 0)), (2, .ref (b 0)), (3, .ref o)] → W p l e room_1 s m #[Value.ref sb] below meth c H1 locs1 (cells + 1) (slots + 6) Q (F0 m 729 ls1 [])) :
    W p l e room_1 s m #[Value.ref sb] below meth c H locs cells slots Q (F0 m 405 ls []) := by
  obtain ⟨hx, hb, hr, hml, hown, hts0, hX, hbl, hlocks, -⟩ := C0
  have hts : ∀ w ∈ wsN_law, w.before #[Value.ref sb] s = true := fun w h => hts0 w (wsN_law_in w h)
  have hown : s.vm.findClass RL = some m.cls := hown
  have hf : cells ≤ room_1.cells ∧ slots ≤ room_1.slots := ⟨Nat.le_of_succ_le hcs.1, Nat.le_trans (Nat.le_add_right _ 6) hcs.2⟩
  obtain ⟨x', w', rx, rw, ho, hcy, okx, okw, hMx, hMw⟩ := p_clear l dC dI a b cI cL cZ h hc
  refine lv_aload_n hx hb dL_law_405 rfl (lv_at hl 2 rfl) ?_
  refine lx_v (As := []) (rest := []) ⟨hx, hb, hml, hown, hts⟩ hMx (okR_cw 0 okx hts ngL_law_X3_clear rfl (by decide +kernel) (by decide)) hf hK hZ hP hD hS hA rfl hl.1 rfl (Nat.le_of_ble_eq_true rfl) dL_law_406 (fun H locs hP hD hS => ?_)
  refine lv_aload_n hx hb dL_law_409 rfl (lv_at hl 3 rfl) ?_
  refine lm_v (As := []) (rest := []) ⟨hx, hb, hml, hown, hts⟩ hMw (okR_cw 0 okw hts ngL_law_X4_clear rfl (by decide +kernel) (by decide)) hf hK hZ hP hD hS hA rfl hl.1 rfl (Nat.le_of_ble_eq_true rfl) dL_law_410 (fun H locs hP hD hS => ?_)
  refine lv_goto (tgt := 729) hx hb dL_law_413 (by decide) ?_
  refine W.widen (k := cells + 1) (n := slots + 6) (Nat.le_add_right _ _) (Nat.le_add_right _ _) ?_
  exact kk x' w' f H locs ls ho hcy hP hD hS hl
set_option maxHeartbeats 4000000 in
set_option maxRecDepth 100000 in
theorem lc_count {p : Program} {e : Env} {s : State} {m : MethodId} {below : List Frame} {meth : Method} {c : Code} {l : Launch} (hl0 : l.stackTraces = false) {sb L : Nat} {xs : Nat → Int32} (C0 : lw_At p s m meth c sb L xs) {A : Nat → Prop} (hA : ∀ q, s.heap.size ≤ q → A q) (hbA : ¬ A sb)
    {dC : Nat → ClassId} {dI : Nat → Nat → Nat} {a b : Nat → Nat} {o : Nat} {cI cL cZ : ClassId} (hK : va_K (dC, dI) vwCl (gT cI cL cZ) s) (hZ : gZ A s s.heap) (hG : gX A s s.heap) {x w : gSt} {f : Nat → Int64} (h : rObs x w) (hc : x.1 22 0 ≤ 1597000) {i : Nat} (hi : i + 6 ≤ L) (hL : L ≤ 3072)
    {H : Heap} {locs : List Loc} {ls : Array Slot} {cells slots : Nat} (hcs : cells + 1 ≤ room_1.cells ∧ slots + 6 ≤ room_1.slots) (hP : va_P (dC, dI) vwCl (lW a b o cI cL cZ x w f) H) (hD : va_D A (lW a b o cI cL cZ x w f)) (hS : va_S A s.heap H locs) (hl : lv_has ls 8 [(4, .int (nI i)), (0, .ref sb), (1, .ref (a 0)), (2, .ref (b 0)), (3, .ref o)]) {Q : State → Prop}
    (kk : ∀ (x' w' : gSt) (g : Nat → Int64) (H1 : Heap) (locs1 : List Loc) (ls1 : Array Slot), rObs x' w' → x'.1 22 0 ≤ x.1 22 0 + 3000 → va_P (dC, dI) vwCl (lW a b o cI cL cZ x' w' g) H1 → va_D A (lW a b o cI cL cZ x' w' g) → va_S A s.heap H1 locs1 → lv_has ls1 8 [(4, .int (nI i)), (0, .ref sb), (1, .ref (a 0)), (2, .ref (b 0)), (3, .ref o)] → W p l e room_1 s m #[Value.ref sb] below meth c H1 locs1 (cells + 1) (slots + 6) Q (F0 m 729 ls1 [])) :
    W p l e room_1 s m #[Value.ref sb] below meth c H locs cells slots Q (F0 m 416 ls []) := by
  obtain ⟨hx, hb, hr, hml, hown, hts0, hX, hbl, hlocks, -⟩ := C0
  have hts : ∀ w ∈ wsN_law, w.before #[Value.ref sb] s = true := fun w h => hts0 w (wsN_law_in w h)
  have hown : s.vm.findClass RL = some m.cls := hown
  have hf : cells ≤ room_1.cells ∧ slots ≤ room_1.slots := ⟨Nat.le_of_succ_le hcs.1, Nat.le_trans (Nat.le_add_right _ 6) hcs.2⟩
  obtain ⟨r, x', w', rx, rw, ho, hcy, okx, okw, hMx, hMw⟩ := p_count l dC dI a b cI cL cZ h hc (xs (nI (i + 1)).toNatClampNeg)
  refine lv_aload_n hx hb dL_law_416 rfl (lv_at hl 2 rfl) ?_
  refine lv_aload_n hx hb dL_law_417 rfl (lv_at hl 1 rfl) ?_
  refine lv_iload hx hb dL_law_418 (lv_at hl 0 rfl) ?_
  refine lv_iconst (v := nI 1) hx hb dL_law_420 (by decide) ?_
  refine n_add hx hb dL_law_421 ?_
  refine va_sld hx hb hX hbl hbA hS (vp_in_nI (show i + 1 < L by omega) (by omega)) dL_law_422 ?_
  refine lx_i (As := [.int (xs (nI (i + 1)).toNatClampNeg)]) (rest := []) ⟨hx, hb, hml, hown, hts⟩ hMx (okR_cw 1 okx hts ngL_law_X3_count rfl (by decide +kernel) (by decide)) hf hK hZ hP hD hS hA rfl hl.1 rfl (Nat.le_of_ble_eq_true rfl) dL_law_423 (fun H locs hP hD hS => ?_)
  refine lv_aload_n hx hb dL_law_426 rfl (lv_at hl 3 rfl) ?_
  refine lv_aload_n hx hb dL_law_427 rfl (lv_at hl 1 rfl) ?_
  refine lv_iload hx hb dL_law_428 (lv_at hl 0 rfl) ?_
  refine lv_iconst (v := nI 1) hx hb dL_law_430 (by decide) ?_
  refine n_add hx hb dL_law_431 ?_
  refine va_sld hx hb hX hbl hbA hS (vp_in_nI (show i + 1 < L by omega) (by omega)) dL_law_432 ?_
  refine lm_i (As := [.int (xs (nI (i + 1)).toNatClampNeg)]) (rest := [.int r]) ⟨hx, hb, hml, hown, hts⟩ hMw (okR_cw 1 okw hts ngL_law_X4_count rfl (by decide +kernel) (by decide)) hf hK hZ hP hD hS hA rfl hl.1 rfl (Nat.le_of_ble_eq_true rfl) dL_law_433 (fun H locs hP hD hS => ?_)
  refine lv_icmp_eq (tgt := 729) hx hb dL_law_436 (by decide) (fun _ => ?_) (fun z => absurd rfl z)
  refine W.widen (k := cells + 1) (n := slots + 6) (Nat.le_add_right _ _) (Nat.le_add_right _ _) ?_
  exact kk x' w' f H locs ls ho hcy hP hD hS hl
set_option maxHeartbeats 4000000 in
set_option maxRecDepth 100000 in
theorem lc_register {p : Program} {e : Env} {s : State} {m : MethodId} {below : List Frame} {meth : Method} {c : Code} {l : Launch} (hl0 : l.stackTraces = false) {sb L : Nat} {xs : Nat → Int32} (C0 : lw_At p s m meth c sb L xs) {A : Nat → Prop} (hA : ∀ q, s.heap.size ≤ q → A q) (hbA : ¬ A sb)
    {dC : Nat → ClassId} {dI : Nat → Nat → Nat} {a b : Nat → Nat} {o : Nat} {cI cL cZ : ClassId} (hK : va_K (dC, dI) vwCl (gT cI cL cZ) s) (hZ : gZ A s s.heap) (hG : gX A s s.heap) {x w : gSt} {f : Nat → Int64} (h : rObs x w) (hc : x.1 22 0 ≤ 1597000) {i : Nat} (hi : i + 6 ≤ L) (hL : L ≤ 3072)
    {H : Heap} {locs : List Loc} {ls : Array Slot} {cells slots : Nat} (hcs : cells + 1 ≤ room_1.cells ∧ slots + 6 ≤ room_1.slots) (hP : va_P (dC, dI) vwCl (lW a b o cI cL cZ x w f) H) (hD : va_D A (lW a b o cI cL cZ x w f)) (hS : va_S A s.heap H locs) (hl : lv_has ls 8 [(4, .int (nI i)), (0, .ref sb), (1, .ref (a 0)), (2, .ref (b 0)), (3, .ref o)]) {Q : State → Prop}
    (kk : ∀ (x' w' : gSt) (g : Nat → Int64) (H1 : Heap) (locs1 : List Loc) (ls1 : Array Slot), rObs x' w' → x'.1 22 0 ≤ x.1 22 0 + 3000 → va_P (dC, dI) vwCl (lW a b o cI cL cZ x' w' g) H1 → va_D A (lW a b o cI cL cZ x' w' g) → va_S A s.heap H1 locs1 → lv_has ls1 8 [(4, .int (nI i)), (0, .ref sb), (1, .ref (a 0)), (2, .ref (b 0)), (3, .ref o)] → W p l e room_1 s m #[Value.ref sb] below meth c H1 locs1 (cells + 1) (slots + 6) Q (F0 m 729 ls1 [])) :
    W p l e room_1 s m #[Value.ref sb] below meth c H locs cells slots Q (F0 m 441 ls []) := by
  obtain ⟨hx, hb, hr, hml, hown, hts0, hX, hbl, hlocks, -⟩ := C0
  have hts : ∀ w ∈ wsN_law, w.before #[Value.ref sb] s = true := fun w h => hts0 w (wsN_law_in w h)
  have hown : s.vm.findClass RL = some m.cls := hown
  have hf : cells ≤ room_1.cells ∧ slots ≤ room_1.slots := ⟨Nat.le_of_succ_le hcs.1, Nat.le_trans (Nat.le_add_right _ 6) hcs.2⟩
  obtain ⟨k, v, w', rw, ho, okw, hk2, hk6, hMx, hMw⟩ := p_register l hl0 dC dI a b o cI cL cZ h hc f (xs (nI (i + 1)).toNatClampNeg)
  have hMt := tM_thrown l dC dI b cI cL cZ w'.1 w'.2
  rw [hk6] at hMt
  have hf1 : cells + 1 ≤ room_1.cells ∧ slots + 6 ≤ room_1.slots := hcs
  refine lv_aload_n hx hb dL_law_441 rfl (lv_at hl 2 rfl) ?_
  refine lv_aload_n hx hb dL_law_442 rfl (lv_at hl 1 rfl) ?_
  refine lv_iload hx hb dL_law_443 (lv_at hl 0 rfl) ?_
  refine lv_iconst (v := nI 1) hx hb dL_law_445 (by decide) ?_
  refine n_add hx hb dL_law_446 ?_
  refine va_sld hx hb hX hbl hbA hS (vp_in_nI (show i + 1 < L by omega) (by omega)) dL_law_447 ?_
  refine lv_aload_n hx hb dL_law_448 rfl (lv_at hl 4 rfl) ?_
  refine lh_i (As := [.ref (a 0), .int (xs (nI (i + 1)).toNatClampNeg), .ref o]) (rest := []) ⟨hx, hb, hml, hown, hts⟩ hMx (vx_cwSW 3 hts ngL_law_L_register rfl rfl rfl (by decide +kernel) ⟨by decide, by decide⟩) hcs hK hZ hG hP hD hS hA rfl hl.1 rfl (Nat.le_of_ble_eq_true rfl) dL_law_449 (fun g H locs hg hP hD hS => ?_)
  refine lv_istore (lv' := [(5, .int (nI k)), (4, .int (nI i)), (0, .ref sb), (1, .ref (a 0)), (2, .ref (b 0)), (3, .ref o)]) hx hb dL_law_452 hl (by decide) rfl (fun ls hl => ?_)
  refine lv_aload_n hx hb dL_law_454 rfl (lv_at hl 4 rfl) ?_
  refine lv_aload_n hx hb dL_law_455 rfl (lv_at hl 2 rfl) ?_
  refine lv_iload hx hb dL_law_456 (lv_at hl 1 rfl) ?_
  refine lv_iconst (v := nI 1) hx hb dL_law_458 (by decide) ?_
  refine n_add hx hb dL_law_459 ?_
  refine va_sld hx hb hX hbl hbA hS (vp_in_nI (show i + 1 < L by omega) (by omega)) dL_law_460 ?_
  refine lm_l (As := [.int (xs (nI (i + 1)).toNatClampNeg)]) (rest := []) ⟨hx, hb, hml, hown, hts⟩ hMw (okR_cw 1 okw hts ngL_law_X4_register rfl (by decide +kernel) (by decide)) hf1 hK hZ hP hD hS hA rfl hl.1 rfl (Nat.le_of_ble_eq_true rfl) dL_law_461 (fun H locs hP hD hS => ?_)
  refine lv_lstore (lv' := [(6, .long v), (5, .int (nI k)), (4, .int (nI i)), (0, .ref sb), (1, .ref (a 0)), (2, .ref (b 0)), (3, .ref o)]) hx hb dL_law_464 hl (by decide) rfl (fun ls hl => ?_)
  refine lv_aload_n hx hb dL_law_466 rfl (lv_at hl 5 rfl) ?_
  refine lm_i (As := []) (rest := []) ⟨hx, hb, hml, hown, hts⟩ hMt (okR_cw 0 (okR_i (by decide) (by decide)) hts ngL_law_X4_thrown rfl (by decide +kernel) (by decide)) hf1 hK hZ hP hD hS hA rfl hl.1 rfl (Nat.le_of_ble_eq_true rfl) dL_law_467 (fun H locs hP hD hS => ?_)
  refine lv_iload hx hb dL_law_470 (lv_at hl 1 rfl) ?_
  refine lv_icmp_eq (tgt := 477) hx hb dL_law_472 (by decide) (fun _ => ?_) (fun z => absurd rfl z)
  refine lv_iload hx hb dL_law_477 (lv_at hl 1 rfl) ?_
  have fin : ∀ ls9 : Array Slot, lv_has ls9 8 [(6, .long v), (5, .int (nI k)), (4, .int (nI i)), (0, .ref sb), (1, .ref (a 0)), (2, .ref (b 0)), (3, .ref o)] → W p l e room_1 s m #[Value.ref sb] below meth c H locs (cells + 1) (slots + 6) Q (F0 m 493 ls9 []) := by
    intro ls9 hl9
    refine lv_goto (tgt := 729) hx hb dL_law_493 (by decide) ?_
    exact kk x w' g H locs ls9 ho (by omega) hP hD hS (lv_sub hl9 [2, 3, 4, 5, 6] rfl)
  refine lv_if_ne (tgt := 493) hx hb dL_law_479 (by decide) (fun _ => fin ls hl) (fun z => ?_)
  have hk0 : k = 0 := by
    rcases (show k = 0 ∨ k = 1 by omega) with q | q
    · exact q
    · rw [q] at z; exact absurd z (by decide)
  refine lv_aload_n hx hb dL_law_482 rfl (lv_at hl 6 rfl) ?_
  refine lv_iconst (v := nI 0) hx hb dL_law_483 (by decide) ?_
  refine va_lald hx hb hK hP 40 1 rfl rfl (vp_in_nI (show 0 < 1 by decide) (by decide)) dL_law_484 ?_
  rw [show g (nI 0).toNatClampNeg = v from hg hk0]
  refine lv_lload hx hb dL_law_485 (lv_at hl 0 rfl) ?_
  refine W.lcmp hx hb dL_law_487 ?_
  refine lv_if_eq (tgt := 493) hx hb dL_law_488 (by decide) (fun _ => fin ls hl) (fun z => absurd (lcmp_same v) z)
set_option maxHeartbeats 4000000 in
set_option maxRecDepth 100000 in
theorem lc_memory {p : Program} {e : Env} {s : State} {m : MethodId} {below : List Frame} {meth : Method} {c : Code} {l : Launch} (hl0 : l.stackTraces = false) {sb L : Nat} {xs : Nat → Int32} (C0 : lw_At p s m meth c sb L xs) {A : Nat → Prop} (hA : ∀ q, s.heap.size ≤ q → A q) (hbA : ¬ A sb)
    {dC : Nat → ClassId} {dI : Nat → Nat → Nat} {a b : Nat → Nat} {o : Nat} {cI cL cZ : ClassId} (hK : va_K (dC, dI) vwCl (gT cI cL cZ) s) (hZ : gZ A s s.heap) (hG : gX A s s.heap) {x w : gSt} {f : Nat → Int64} (h : rObs x w) (hc : x.1 22 0 ≤ 1597000) {i : Nat} (hi : i + 6 ≤ L) (hL : L ≤ 3072)
    {H : Heap} {locs : List Loc} {ls : Array Slot} {cells slots : Nat} (hcs : cells + 1 ≤ room_1.cells ∧ slots + 6 ≤ room_1.slots) (hP : va_P (dC, dI) vwCl (lW a b o cI cL cZ x w f) H) (hD : va_D A (lW a b o cI cL cZ x w f)) (hS : va_S A s.heap H locs) (hl : lv_has ls 8 [(4, .int (nI i)), (0, .ref sb), (1, .ref (a 0)), (2, .ref (b 0)), (3, .ref o)]) {Q : State → Prop}
    (kk : ∀ (x' w' : gSt) (g : Nat → Int64) (H1 : Heap) (locs1 : List Loc) (ls1 : Array Slot), rObs x' w' → x'.1 22 0 ≤ x.1 22 0 + 3000 → va_P (dC, dI) vwCl (lW a b o cI cL cZ x' w' g) H1 → va_D A (lW a b o cI cL cZ x' w' g) → va_S A s.heap H1 locs1 → lv_has ls1 8 [(4, .int (nI i)), (0, .ref sb), (1, .ref (a 0)), (2, .ref (b 0)), (3, .ref o)] → W p l e room_1 s m #[Value.ref sb] below meth c H1 locs1 (cells + 1) (slots + 6) Q (F0 m 729 ls1 [])) :
    W p l e room_1 s m #[Value.ref sb] below meth c H locs cells slots Q (F0 m 496 ls []) := by
  obtain ⟨hx, hb, hr, hml, hown, hts0, hX, hbl, hlocks, -⟩ := C0
  have hts : ∀ w ∈ wsN_law, w.before #[Value.ref sb] s = true := fun w h => hts0 w (wsN_law_in w h)
  have hown : s.vm.findClass RL = some m.cls := hown
  have hf : cells ≤ room_1.cells ∧ slots ≤ room_1.slots := ⟨Nat.le_of_succ_le hcs.1, Nat.le_trans (Nat.le_add_right _ 6) hcs.2⟩
  obtain ⟨k, v, w', rw, ho, okw, hk2, hk6, hMx, hMw⟩ := p_memory l hl0 dC dI a b o cI cL cZ h hc f (xs (nI (i + 1)).toNatClampNeg)
  have hMt := tM_thrown l dC dI b cI cL cZ w'.1 w'.2
  rw [hk6] at hMt
  have hf1 : cells + 1 ≤ room_1.cells ∧ slots + 6 ≤ room_1.slots := hcs
  refine lv_aload_n hx hb dL_law_496 rfl (lv_at hl 2 rfl) ?_
  refine lv_aload_n hx hb dL_law_497 rfl (lv_at hl 1 rfl) ?_
  refine lv_iload hx hb dL_law_498 (lv_at hl 0 rfl) ?_
  refine lv_iconst (v := nI 1) hx hb dL_law_500 (by decide) ?_
  refine n_add hx hb dL_law_501 ?_
  refine va_sld hx hb hX hbl hbA hS (vp_in_nI (show i + 1 < L by omega) (by omega)) dL_law_502 ?_
  refine lv_aload_n hx hb dL_law_503 rfl (lv_at hl 4 rfl) ?_
  refine lh_i (As := [.ref (a 0), .int (xs (nI (i + 1)).toNatClampNeg), .ref o]) (rest := []) ⟨hx, hb, hml, hown, hts⟩ hMx (vx_cwSW 3 hts ngL_law_L_memory rfl rfl rfl (by decide +kernel) ⟨by decide, by decide⟩) hcs hK hZ hG hP hD hS hA rfl hl.1 rfl (Nat.le_of_ble_eq_true rfl) dL_law_504 (fun g H locs hg hP hD hS => ?_)
  refine lv_istore (lv' := [(5, .int (nI k)), (4, .int (nI i)), (0, .ref sb), (1, .ref (a 0)), (2, .ref (b 0)), (3, .ref o)]) hx hb dL_law_507 hl (by decide) rfl (fun ls hl => ?_)
  refine lv_aload_n hx hb dL_law_509 rfl (lv_at hl 4 rfl) ?_
  refine lv_aload_n hx hb dL_law_510 rfl (lv_at hl 2 rfl) ?_
  refine lv_iload hx hb dL_law_511 (lv_at hl 1 rfl) ?_
  refine lv_iconst (v := nI 1) hx hb dL_law_513 (by decide) ?_
  refine n_add hx hb dL_law_514 ?_
  refine va_sld hx hb hX hbl hbA hS (vp_in_nI (show i + 1 < L by omega) (by omega)) dL_law_515 ?_
  refine lm_l (As := [.int (xs (nI (i + 1)).toNatClampNeg)]) (rest := []) ⟨hx, hb, hml, hown, hts⟩ hMw (okR_cw 1 okw hts ngL_law_X4_memory rfl (by decide +kernel) (by decide)) hf1 hK hZ hP hD hS hA rfl hl.1 rfl (Nat.le_of_ble_eq_true rfl) dL_law_516 (fun H locs hP hD hS => ?_)
  refine lv_lstore (lv' := [(6, .long v), (5, .int (nI k)), (4, .int (nI i)), (0, .ref sb), (1, .ref (a 0)), (2, .ref (b 0)), (3, .ref o)]) hx hb dL_law_519 hl (by decide) rfl (fun ls hl => ?_)
  refine lv_aload_n hx hb dL_law_521 rfl (lv_at hl 5 rfl) ?_
  refine lm_i (As := []) (rest := []) ⟨hx, hb, hml, hown, hts⟩ hMt (okR_cw 0 (okR_i (by decide) (by decide)) hts ngL_law_X4_thrown rfl (by decide +kernel) (by decide)) hf1 hK hZ hP hD hS hA rfl hl.1 rfl (Nat.le_of_ble_eq_true rfl) dL_law_522 (fun H locs hP hD hS => ?_)
  refine lv_iload hx hb dL_law_525 (lv_at hl 1 rfl) ?_
  refine lv_icmp_eq (tgt := 532) hx hb dL_law_527 (by decide) (fun _ => ?_) (fun z => absurd rfl z)
  refine lv_iload hx hb dL_law_532 (lv_at hl 1 rfl) ?_
  have fin : ∀ ls9 : Array Slot, lv_has ls9 8 [(6, .long v), (5, .int (nI k)), (4, .int (nI i)), (0, .ref sb), (1, .ref (a 0)), (2, .ref (b 0)), (3, .ref o)] → W p l e room_1 s m #[Value.ref sb] below meth c H locs (cells + 1) (slots + 6) Q (F0 m 548 ls9 []) := by
    intro ls9 hl9
    refine lv_goto (tgt := 729) hx hb dL_law_548 (by decide) ?_
    exact kk x w' g H locs ls9 ho (by omega) hP hD hS (lv_sub hl9 [2, 3, 4, 5, 6] rfl)
  refine lv_if_ne (tgt := 548) hx hb dL_law_534 (by decide) (fun _ => fin ls hl) (fun z => ?_)
  have hk0 : k = 0 := by
    rcases (show k = 0 ∨ k = 1 by omega) with q | q
    · exact q
    · rw [q] at z; exact absurd z (by decide)
  refine lv_aload_n hx hb dL_law_537 rfl (lv_at hl 6 rfl) ?_
  refine lv_iconst (v := nI 0) hx hb dL_law_538 (by decide) ?_
  refine va_lald hx hb hK hP 40 1 rfl rfl (vp_in_nI (show 0 < 1 by decide) (by decide)) dL_law_539 ?_
  rw [show g (nI 0).toNatClampNeg = v from hg hk0]
  refine lv_lload hx hb dL_law_540 (lv_at hl 0 rfl) ?_
  refine W.lcmp hx hb dL_law_542 ?_
  refine lv_if_eq (tgt := 548) hx hb dL_law_543 (by decide) (fun _ => fin ls hl) (fun z => absurd (lcmp_same v) z)
set_option maxHeartbeats 4000000 in
set_option maxRecDepth 100000 in
theorem lc_plain {p : Program} {e : Env} {s : State} {m : MethodId} {below : List Frame} {meth : Method} {c : Code} {l : Launch} (hl0 : l.stackTraces = false) {sb L : Nat} {xs : Nat → Int32} (C0 : lw_At p s m meth c sb L xs) {A : Nat → Prop} (hA : ∀ q, s.heap.size ≤ q → A q) (hbA : ¬ A sb)
    {dC : Nat → ClassId} {dI : Nat → Nat → Nat} {a b : Nat → Nat} {o : Nat} {cI cL cZ : ClassId} (hK : va_K (dC, dI) vwCl (gT cI cL cZ) s) (hZ : gZ A s s.heap) (hG : gX A s s.heap) {x w : gSt} {f : Nat → Int64} (h : rObs x w) (hc : x.1 22 0 ≤ 1597000) {i : Nat} (hi : i + 6 ≤ L) (hL : L ≤ 3072)
    {H : Heap} {locs : List Loc} {ls : Array Slot} {cells slots : Nat} (hcs : cells + 1 ≤ room_1.cells ∧ slots + 6 ≤ room_1.slots) (hP : va_P (dC, dI) vwCl (lW a b o cI cL cZ x w f) H) (hD : va_D A (lW a b o cI cL cZ x w f)) (hS : va_S A s.heap H locs) (hl : lv_has ls 8 [(4, .int (nI i)), (0, .ref sb), (1, .ref (a 0)), (2, .ref (b 0)), (3, .ref o)]) {Q : State → Prop}
    (kk : ∀ (x' w' : gSt) (g : Nat → Int64) (H1 : Heap) (locs1 : List Loc) (ls1 : Array Slot), rObs x' w' → x'.1 22 0 ≤ x.1 22 0 + 3000 → va_P (dC, dI) vwCl (lW a b o cI cL cZ x' w' g) H1 → va_D A (lW a b o cI cL cZ x' w' g) → va_S A s.heap H1 locs1 → lv_has ls1 8 [(4, .int (nI i)), (0, .ref sb), (1, .ref (a 0)), (2, .ref (b 0)), (3, .ref o)] → W p l e room_1 s m #[Value.ref sb] below meth c H1 locs1 (cells + 1) (slots + 6) Q (F0 m 729 ls1 [])) :
    W p l e room_1 s m #[Value.ref sb] below meth c H locs cells slots Q (F0 m 551 ls []) := by
  obtain ⟨hx, hb, hr, hml, hown, hts0, hX, hbl, hlocks, -⟩ := C0
  have hts : ∀ w ∈ wsN_law, w.before #[Value.ref sb] s = true := fun w h => hts0 w (wsN_law_in w h)
  have hown : s.vm.findClass RL = some m.cls := hown
  have hf : cells ≤ room_1.cells ∧ slots ≤ room_1.slots := ⟨Nat.le_of_succ_le hcs.1, Nat.le_trans (Nat.le_add_right _ 6) hcs.2⟩
  obtain ⟨k, v, w', rw, ho, okw, hk2, hk6, hMx, hMw⟩ := p_plain l hl0 dC dI a b o cI cL cZ h hc f (xs (nI (i + 1)).toNatClampNeg) (xs (nI (i + 2)).toNatClampNeg)
  have hMt := tM_thrown l dC dI b cI cL cZ w'.1 w'.2
  rw [hk6] at hMt
  have hf1 : cells + 1 ≤ room_1.cells ∧ slots + 6 ≤ room_1.slots := hcs
  refine lv_aload_n hx hb dL_law_551 rfl (lv_at hl 2 rfl) ?_
  refine lv_aload_n hx hb dL_law_552 rfl (lv_at hl 1 rfl) ?_
  refine lv_iload hx hb dL_law_553 (lv_at hl 0 rfl) ?_
  refine lv_iconst (v := nI 1) hx hb dL_law_555 (by decide) ?_
  refine n_add hx hb dL_law_556 ?_
  refine va_sld hx hb hX hbl hbA hS (vp_in_nI (show i + 1 < L by omega) (by omega)) dL_law_557 ?_
  refine lv_aload_n hx hb dL_law_558 rfl (lv_at hl 1 rfl) ?_
  refine lv_iload hx hb dL_law_559 (lv_at hl 0 rfl) ?_
  refine lv_iconst (v := nI 2) hx hb dL_law_561 (by decide) ?_
  refine n_add hx hb dL_law_562 ?_
  refine va_sld hx hb hX hbl hbA hS (vp_in_nI (show i + 2 < L by omega) (by omega)) dL_law_563 ?_
  refine lv_aload_n hx hb dL_law_564 rfl (lv_at hl 4 rfl) ?_
  refine lh_i (As := [.ref (a 0), .int (xs (nI (i + 1)).toNatClampNeg), .int (xs (nI (i + 2)).toNatClampNeg), .ref o]) (rest := []) ⟨hx, hb, hml, hown, hts⟩ hMx (vx_cwSW 4 hts ngL_law_L_plain rfl rfl rfl (by decide +kernel) ⟨by decide, by decide⟩) hcs hK hZ hG hP hD hS hA rfl hl.1 rfl (Nat.le_of_ble_eq_true rfl) dL_law_565 (fun g H locs hg hP hD hS => ?_)
  refine lv_istore (lv' := [(5, .int (nI k)), (4, .int (nI i)), (0, .ref sb), (1, .ref (a 0)), (2, .ref (b 0)), (3, .ref o)]) hx hb dL_law_568 hl (by decide) rfl (fun ls hl => ?_)
  refine lv_aload_n hx hb dL_law_570 rfl (lv_at hl 4 rfl) ?_
  refine lv_aload_n hx hb dL_law_571 rfl (lv_at hl 2 rfl) ?_
  refine lv_iload hx hb dL_law_572 (lv_at hl 1 rfl) ?_
  refine lv_iconst (v := nI 1) hx hb dL_law_574 (by decide) ?_
  refine n_add hx hb dL_law_575 ?_
  refine va_sld hx hb hX hbl hbA hS (vp_in_nI (show i + 1 < L by omega) (by omega)) dL_law_576 ?_
  refine lv_aload_n hx hb dL_law_577 rfl (lv_at hl 2 rfl) ?_
  refine lv_iload hx hb dL_law_578 (lv_at hl 1 rfl) ?_
  refine lv_iconst (v := nI 2) hx hb dL_law_580 (by decide) ?_
  refine n_add hx hb dL_law_581 ?_
  refine va_sld hx hb hX hbl hbA hS (vp_in_nI (show i + 2 < L by omega) (by omega)) dL_law_582 ?_
  refine lm_l (As := [.int (xs (nI (i + 1)).toNatClampNeg), .int (xs (nI (i + 2)).toNatClampNeg)]) (rest := []) ⟨hx, hb, hml, hown, hts⟩ hMw (okR_cw 2 okw hts ngL_law_X4_plain rfl (by decide +kernel) (by decide)) hf1 hK hZ hP hD hS hA rfl hl.1 rfl (Nat.le_of_ble_eq_true rfl) dL_law_583 (fun H locs hP hD hS => ?_)
  refine lv_lstore (lv' := [(6, .long v), (5, .int (nI k)), (4, .int (nI i)), (0, .ref sb), (1, .ref (a 0)), (2, .ref (b 0)), (3, .ref o)]) hx hb dL_law_586 hl (by decide) rfl (fun ls hl => ?_)
  refine lv_aload_n hx hb dL_law_588 rfl (lv_at hl 5 rfl) ?_
  refine lm_i (As := []) (rest := []) ⟨hx, hb, hml, hown, hts⟩ hMt (okR_cw 0 (okR_i (by decide) (by decide)) hts ngL_law_X4_thrown rfl (by decide +kernel) (by decide)) hf1 hK hZ hP hD hS hA rfl hl.1 rfl (Nat.le_of_ble_eq_true rfl) dL_law_589 (fun H locs hP hD hS => ?_)
  refine lv_iload hx hb dL_law_592 (lv_at hl 1 rfl) ?_
  refine lv_icmp_eq (tgt := 599) hx hb dL_law_594 (by decide) (fun _ => ?_) (fun z => absurd rfl z)
  refine lv_iload hx hb dL_law_599 (lv_at hl 1 rfl) ?_
  have fin : ∀ ls9 : Array Slot, lv_has ls9 8 [(6, .long v), (5, .int (nI k)), (4, .int (nI i)), (0, .ref sb), (1, .ref (a 0)), (2, .ref (b 0)), (3, .ref o)] → W p l e room_1 s m #[Value.ref sb] below meth c H locs (cells + 1) (slots + 6) Q (F0 m 615 ls9 []) := by
    intro ls9 hl9
    refine lv_goto (tgt := 729) hx hb dL_law_615 (by decide) ?_
    exact kk x w' g H locs ls9 ho (by omega) hP hD hS (lv_sub hl9 [2, 3, 4, 5, 6] rfl)
  refine lv_if_ne (tgt := 615) hx hb dL_law_601 (by decide) (fun _ => fin ls hl) (fun z => ?_)
  have hk0 : k = 0 := by
    rcases (show k = 0 ∨ k = 1 by omega) with q | q
    · exact q
    · rw [q] at z; exact absurd z (by decide)
  refine lv_aload_n hx hb dL_law_604 rfl (lv_at hl 6 rfl) ?_
  refine lv_iconst (v := nI 0) hx hb dL_law_605 (by decide) ?_
  refine va_lald hx hb hK hP 40 1 rfl rfl (vp_in_nI (show 0 < 1 by decide) (by decide)) dL_law_606 ?_
  rw [show g (nI 0).toNatClampNeg = v from hg hk0]
  refine lv_lload hx hb dL_law_607 (lv_at hl 0 rfl) ?_
  refine W.lcmp hx hb dL_law_609 ?_
  refine lv_if_eq (tgt := 615) hx hb dL_law_610 (by decide) (fun _ => fin ls hl) (fun z => absurd (lcmp_same v) z)
set_option maxHeartbeats 4000000 in
set_option maxRecDepth 100000 in
theorem lc_unit {p : Program} {e : Env} {s : State} {m : MethodId} {below : List Frame} {meth : Method} {c : Code} {l : Launch} (hl0 : l.stackTraces = false) {sb L : Nat} {xs : Nat → Int32} (C0 : lw_At p s m meth c sb L xs) {A : Nat → Prop} (hA : ∀ q, s.heap.size ≤ q → A q) (hbA : ¬ A sb)
    {dC : Nat → ClassId} {dI : Nat → Nat → Nat} {a b : Nat → Nat} {o : Nat} {cI cL cZ : ClassId} (hK : va_K (dC, dI) vwCl (gT cI cL cZ) s) (hZ : gZ A s s.heap) (hG : gX A s s.heap) {x w : gSt} {f : Nat → Int64} (h : rObs x w) (hc : x.1 22 0 ≤ 1597000) {i : Nat} (hi : i + 6 ≤ L) (hL : L ≤ 3072)
    {H : Heap} {locs : List Loc} {ls : Array Slot} {cells slots : Nat} (hcs : cells + 1 ≤ room_1.cells ∧ slots + 6 ≤ room_1.slots) (hP : va_P (dC, dI) vwCl (lW a b o cI cL cZ x w f) H) (hD : va_D A (lW a b o cI cL cZ x w f)) (hS : va_S A s.heap H locs) (hl : lv_has ls 8 [(4, .int (nI i)), (0, .ref sb), (1, .ref (a 0)), (2, .ref (b 0)), (3, .ref o)]) {Q : State → Prop}
    (kk : ∀ (x' w' : gSt) (g : Nat → Int64) (H1 : Heap) (locs1 : List Loc) (ls1 : Array Slot), rObs x' w' → x'.1 22 0 ≤ x.1 22 0 + 3000 → va_P (dC, dI) vwCl (lW a b o cI cL cZ x' w' g) H1 → va_D A (lW a b o cI cL cZ x' w' g) → va_S A s.heap H1 locs1 → lv_has ls1 8 [(4, .int (nI i)), (0, .ref sb), (1, .ref (a 0)), (2, .ref (b 0)), (3, .ref o)] → W p l e room_1 s m #[Value.ref sb] below meth c H1 locs1 (cells + 1) (slots + 6) Q (F0 m 729 ls1 [])) :
    W p l e room_1 s m #[Value.ref sb] below meth c H locs cells slots Q (F0 m 618 ls []) := by
  obtain ⟨hx, hb, hr, hml, hown, hts0, hX, hbl, hlocks, -⟩ := C0
  have hts : ∀ w ∈ wsN_law, w.before #[Value.ref sb] s = true := fun w h => hts0 w (wsN_law_in w h)
  have hown : s.vm.findClass RL = some m.cls := hown
  have hf : cells ≤ room_1.cells ∧ slots ≤ room_1.slots := ⟨Nat.le_of_succ_le hcs.1, Nat.le_trans (Nat.le_add_right _ 6) hcs.2⟩
  obtain ⟨r, x', w', rx, rw, ho, hcy, okx, okw, hMx, hMw⟩ := p_unit l dC dI a b cI cL cZ h hc (xs (nI (i + 1)).toNatClampNeg) (xs (nI (i + 2)).toNatClampNeg) (xs (nI (i + 3)).toNatClampNeg)
  refine lv_aload_n hx hb dL_law_618 rfl (lv_at hl 2 rfl) ?_
  refine lv_aload_n hx hb dL_law_619 rfl (lv_at hl 1 rfl) ?_
  refine lv_iload hx hb dL_law_620 (lv_at hl 0 rfl) ?_
  refine lv_iconst (v := nI 1) hx hb dL_law_622 (by decide) ?_
  refine n_add hx hb dL_law_623 ?_
  refine va_sld hx hb hX hbl hbA hS (vp_in_nI (show i + 1 < L by omega) (by omega)) dL_law_624 ?_
  refine lv_aload_n hx hb dL_law_625 rfl (lv_at hl 1 rfl) ?_
  refine lv_iload hx hb dL_law_626 (lv_at hl 0 rfl) ?_
  refine lv_iconst (v := nI 2) hx hb dL_law_628 (by decide) ?_
  refine n_add hx hb dL_law_629 ?_
  refine va_sld hx hb hX hbl hbA hS (vp_in_nI (show i + 2 < L by omega) (by omega)) dL_law_630 ?_
  refine lv_aload_n hx hb dL_law_631 rfl (lv_at hl 1 rfl) ?_
  refine lv_iload hx hb dL_law_632 (lv_at hl 0 rfl) ?_
  refine lv_iconst (v := nI 3) hx hb dL_law_634 (by decide) ?_
  refine n_add hx hb dL_law_635 ?_
  refine va_sld hx hb hX hbl hbA hS (vp_in_nI (show i + 3 < L by omega) (by omega)) dL_law_636 ?_
  refine lx_i (As := [.int (xs (nI (i + 1)).toNatClampNeg), .int (xs (nI (i + 2)).toNatClampNeg), .int (xs (nI (i + 3)).toNatClampNeg)]) (rest := []) ⟨hx, hb, hml, hown, hts⟩ hMx (okR_cw 3 okx hts ngL_law_X3_unit rfl (by decide +kernel) (by decide)) hf hK hZ hP hD hS hA rfl hl.1 rfl (Nat.le_of_ble_eq_true rfl) dL_law_637 (fun H locs hP hD hS => ?_)
  refine lv_aload_n hx hb dL_law_640 rfl (lv_at hl 3 rfl) ?_
  refine lv_aload_n hx hb dL_law_641 rfl (lv_at hl 1 rfl) ?_
  refine lv_iload hx hb dL_law_642 (lv_at hl 0 rfl) ?_
  refine lv_iconst (v := nI 1) hx hb dL_law_644 (by decide) ?_
  refine n_add hx hb dL_law_645 ?_
  refine va_sld hx hb hX hbl hbA hS (vp_in_nI (show i + 1 < L by omega) (by omega)) dL_law_646 ?_
  refine lv_aload_n hx hb dL_law_647 rfl (lv_at hl 1 rfl) ?_
  refine lv_iload hx hb dL_law_648 (lv_at hl 0 rfl) ?_
  refine lv_iconst (v := nI 2) hx hb dL_law_650 (by decide) ?_
  refine n_add hx hb dL_law_651 ?_
  refine va_sld hx hb hX hbl hbA hS (vp_in_nI (show i + 2 < L by omega) (by omega)) dL_law_652 ?_
  refine lv_aload_n hx hb dL_law_653 rfl (lv_at hl 1 rfl) ?_
  refine lv_iload hx hb dL_law_654 (lv_at hl 0 rfl) ?_
  refine lv_iconst (v := nI 3) hx hb dL_law_656 (by decide) ?_
  refine n_add hx hb dL_law_657 ?_
  refine va_sld hx hb hX hbl hbA hS (vp_in_nI (show i + 3 < L by omega) (by omega)) dL_law_658 ?_
  refine lm_i (As := [.int (xs (nI (i + 1)).toNatClampNeg), .int (xs (nI (i + 2)).toNatClampNeg), .int (xs (nI (i + 3)).toNatClampNeg)]) (rest := [.int r]) ⟨hx, hb, hml, hown, hts⟩ hMw (okR_cw 3 okw hts ngL_law_X4_unit rfl (by decide +kernel) (by decide)) hf hK hZ hP hD hS hA rfl hl.1 rfl (Nat.le_of_ble_eq_true rfl) dL_law_659 (fun H locs hP hD hS => ?_)
  refine lv_icmp_eq (tgt := 729) hx hb dL_law_662 (by decide) (fun _ => ?_) (fun z => absurd rfl z)
  refine W.widen (k := cells + 1) (n := slots + 6) (Nat.le_add_right _ _) (Nat.le_add_right _ _) ?_
  exact kk x' w' f H locs ls ho hcy hP hD hS hl
set_option maxHeartbeats 4000000 in
set_option maxRecDepth 100000 in
theorem lc_pending {p : Program} {e : Env} {s : State} {m : MethodId} {below : List Frame} {meth : Method} {c : Code} {l : Launch} (hl0 : l.stackTraces = false) {sb L : Nat} {xs : Nat → Int32} (C0 : lw_At p s m meth c sb L xs) {A : Nat → Prop} (hA : ∀ q, s.heap.size ≤ q → A q) (hbA : ¬ A sb)
    {dC : Nat → ClassId} {dI : Nat → Nat → Nat} {a b : Nat → Nat} {o : Nat} {cI cL cZ : ClassId} (hK : va_K (dC, dI) vwCl (gT cI cL cZ) s) (hZ : gZ A s s.heap) (hG : gX A s s.heap) {x w : gSt} {f : Nat → Int64} (h : rObs x w) (hc : x.1 22 0 ≤ 1597000) {i : Nat} (hi : i + 6 ≤ L) (hL : L ≤ 3072)
    {H : Heap} {locs : List Loc} {ls : Array Slot} {cells slots : Nat} (hcs : cells + 1 ≤ room_1.cells ∧ slots + 6 ≤ room_1.slots) (hP : va_P (dC, dI) vwCl (lW a b o cI cL cZ x w f) H) (hD : va_D A (lW a b o cI cL cZ x w f)) (hS : va_S A s.heap H locs) (hl : lv_has ls 8 [(4, .int (nI i)), (0, .ref sb), (1, .ref (a 0)), (2, .ref (b 0)), (3, .ref o)]) {Q : State → Prop}
    (kk : ∀ (x' w' : gSt) (g : Nat → Int64) (H1 : Heap) (locs1 : List Loc) (ls1 : Array Slot), rObs x' w' → x'.1 22 0 ≤ x.1 22 0 + 3000 → va_P (dC, dI) vwCl (lW a b o cI cL cZ x' w' g) H1 → va_D A (lW a b o cI cL cZ x' w' g) → va_S A s.heap H1 locs1 → lv_has ls1 8 [(4, .int (nI i)), (0, .ref sb), (1, .ref (a 0)), (2, .ref (b 0)), (3, .ref o)] → W p l e room_1 s m #[Value.ref sb] below meth c H1 locs1 (cells + 1) (slots + 6) Q (F0 m 729 ls1 [])) :
    W p l e room_1 s m #[Value.ref sb] below meth c H locs cells slots Q (F0 m 667 ls []) := by
  obtain ⟨hx, hb, hr, hml, hown, hts0, hX, hbl, hlocks, -⟩ := C0
  have hts : ∀ w ∈ wsN_law, w.before #[Value.ref sb] s = true := fun w h => hts0 w (wsN_law_in w h)
  have hown : s.vm.findClass RL = some m.cls := hown
  have hf : cells ≤ room_1.cells ∧ slots ≤ room_1.slots := ⟨Nat.le_of_succ_le hcs.1, Nat.le_trans (Nat.le_add_right _ 6) hcs.2⟩
  obtain ⟨r, x', w', rx, rw, ho, hcy, okx, okw, hMx, hMw⟩ := p_pending l dC dI a b cI cL cZ h hc (xs (nI (i + 1)).toNatClampNeg)
  refine lv_aload_n hx hb dL_law_667 rfl (lv_at hl 2 rfl) ?_
  refine lv_aload_n hx hb dL_law_668 rfl (lv_at hl 1 rfl) ?_
  refine lv_iload hx hb dL_law_669 (lv_at hl 0 rfl) ?_
  refine lv_iconst (v := nI 1) hx hb dL_law_671 (by decide) ?_
  refine n_add hx hb dL_law_672 ?_
  refine va_sld hx hb hX hbl hbA hS (vp_in_nI (show i + 1 < L by omega) (by omega)) dL_law_673 ?_
  refine lx_i (As := [.int (xs (nI (i + 1)).toNatClampNeg)]) (rest := []) ⟨hx, hb, hml, hown, hts⟩ hMx (okR_cw 1 okx hts ngL_law_X3_pending rfl (by decide +kernel) (by decide)) hf hK hZ hP hD hS hA rfl hl.1 rfl (Nat.le_of_ble_eq_true rfl) dL_law_674 (fun H locs hP hD hS => ?_)
  refine lv_aload_n hx hb dL_law_677 rfl (lv_at hl 3 rfl) ?_
  refine lv_aload_n hx hb dL_law_678 rfl (lv_at hl 1 rfl) ?_
  refine lv_iload hx hb dL_law_679 (lv_at hl 0 rfl) ?_
  refine lv_iconst (v := nI 1) hx hb dL_law_681 (by decide) ?_
  refine n_add hx hb dL_law_682 ?_
  refine va_sld hx hb hX hbl hbA hS (vp_in_nI (show i + 1 < L by omega) (by omega)) dL_law_683 ?_
  refine lm_i (As := [.int (xs (nI (i + 1)).toNatClampNeg)]) (rest := [.int r]) ⟨hx, hb, hml, hown, hts⟩ hMw (okR_cw 1 okw hts ngL_law_X4_pending rfl (by decide +kernel) (by decide)) hf hK hZ hP hD hS hA rfl hl.1 rfl (Nat.le_of_ble_eq_true rfl) dL_law_684 (fun H locs hP hD hS => ?_)
  refine lv_icmp_eq (tgt := 729) hx hb dL_law_687 (by decide) (fun _ => ?_) (fun z => absurd rfl z)
  refine W.widen (k := cells + 1) (n := slots + 6) (Nat.le_add_right _ _) (Nat.le_add_right _ _) ?_
  exact kk x' w' f H locs ls ho hcy hP hD hS hl
set_option maxHeartbeats 4000000 in
set_option maxRecDepth 100000 in
theorem lc_latest {p : Program} {e : Env} {s : State} {m : MethodId} {below : List Frame} {meth : Method} {c : Code} {l : Launch} (hl0 : l.stackTraces = false) {sb L : Nat} {xs : Nat → Int32} (C0 : lw_At p s m meth c sb L xs) {A : Nat → Prop} (hA : ∀ q, s.heap.size ≤ q → A q) (hbA : ¬ A sb)
    {dC : Nat → ClassId} {dI : Nat → Nat → Nat} {a b : Nat → Nat} {o : Nat} {cI cL cZ : ClassId} (hK : va_K (dC, dI) vwCl (gT cI cL cZ) s) (hZ : gZ A s s.heap) (hG : gX A s s.heap) {x w : gSt} {f : Nat → Int64} (h : rObs x w) (hc : x.1 22 0 ≤ 1597000) {i : Nat} (hi : i + 6 ≤ L) (hL : L ≤ 3072)
    {H : Heap} {locs : List Loc} {ls : Array Slot} {cells slots : Nat} (hcs : cells + 1 ≤ room_1.cells ∧ slots + 6 ≤ room_1.slots) (hP : va_P (dC, dI) vwCl (lW a b o cI cL cZ x w f) H) (hD : va_D A (lW a b o cI cL cZ x w f)) (hS : va_S A s.heap H locs) (hl : lv_has ls 8 [(4, .int (nI i)), (0, .ref sb), (1, .ref (a 0)), (2, .ref (b 0)), (3, .ref o)]) {Q : State → Prop}
    (kk : ∀ (x' w' : gSt) (g : Nat → Int64) (H1 : Heap) (locs1 : List Loc) (ls1 : Array Slot), rObs x' w' → x'.1 22 0 ≤ x.1 22 0 + 3000 → va_P (dC, dI) vwCl (lW a b o cI cL cZ x' w' g) H1 → va_D A (lW a b o cI cL cZ x' w' g) → va_S A s.heap H1 locs1 → lv_has ls1 8 [(4, .int (nI i)), (0, .ref sb), (1, .ref (a 0)), (2, .ref (b 0)), (3, .ref o)] → W p l e room_1 s m #[Value.ref sb] below meth c H1 locs1 (cells + 1) (slots + 6) Q (F0 m 729 ls1 [])) :
    W p l e room_1 s m #[Value.ref sb] below meth c H locs cells slots Q (F0 m 692 ls []) := by
  obtain ⟨hx, hb, hr, hml, hown, hts0, hX, hbl, hlocks, -⟩ := C0
  have hts : ∀ w ∈ wsN_law, w.before #[Value.ref sb] s = true := fun w h => hts0 w (wsN_law_in w h)
  have hown : s.vm.findClass RL = some m.cls := hown
  have hf : cells ≤ room_1.cells ∧ slots ≤ room_1.slots := ⟨Nat.le_of_succ_le hcs.1, Nat.le_trans (Nat.le_add_right _ 6) hcs.2⟩
  obtain ⟨r, x', w', rx, rw, ho, hcy, okx, okw, hMx, hMw⟩ := p_latest l dC dI a b cI cL cZ h hc (xs (nI (i + 1)).toNatClampNeg) (xs (nI (i + 2)).toNatClampNeg)
  refine lv_aload_n hx hb dL_law_692 rfl (lv_at hl 2 rfl) ?_
  refine lv_aload_n hx hb dL_law_693 rfl (lv_at hl 1 rfl) ?_
  refine lv_iload hx hb dL_law_694 (lv_at hl 0 rfl) ?_
  refine lv_iconst (v := nI 1) hx hb dL_law_696 (by decide) ?_
  refine n_add hx hb dL_law_697 ?_
  refine va_sld hx hb hX hbl hbA hS (vp_in_nI (show i + 1 < L by omega) (by omega)) dL_law_698 ?_
  refine lv_aload_n hx hb dL_law_699 rfl (lv_at hl 1 rfl) ?_
  refine lv_iload hx hb dL_law_700 (lv_at hl 0 rfl) ?_
  refine lv_iconst (v := nI 2) hx hb dL_law_702 (by decide) ?_
  refine n_add hx hb dL_law_703 ?_
  refine va_sld hx hb hX hbl hbA hS (vp_in_nI (show i + 2 < L by omega) (by omega)) dL_law_704 ?_
  refine lx_i (As := [.int (xs (nI (i + 1)).toNatClampNeg), .int (xs (nI (i + 2)).toNatClampNeg)]) (rest := []) ⟨hx, hb, hml, hown, hts⟩ hMx (okR_cw 2 okx hts ngL_law_X3_latest rfl (by decide +kernel) (by decide)) hf hK hZ hP hD hS hA rfl hl.1 rfl (Nat.le_of_ble_eq_true rfl) dL_law_705 (fun H locs hP hD hS => ?_)
  refine lv_aload_n hx hb dL_law_708 rfl (lv_at hl 3 rfl) ?_
  refine lv_aload_n hx hb dL_law_709 rfl (lv_at hl 1 rfl) ?_
  refine lv_iload hx hb dL_law_710 (lv_at hl 0 rfl) ?_
  refine lv_iconst (v := nI 1) hx hb dL_law_712 (by decide) ?_
  refine n_add hx hb dL_law_713 ?_
  refine va_sld hx hb hX hbl hbA hS (vp_in_nI (show i + 1 < L by omega) (by omega)) dL_law_714 ?_
  refine lv_aload_n hx hb dL_law_715 rfl (lv_at hl 1 rfl) ?_
  refine lv_iload hx hb dL_law_716 (lv_at hl 0 rfl) ?_
  refine lv_iconst (v := nI 2) hx hb dL_law_718 (by decide) ?_
  refine n_add hx hb dL_law_719 ?_
  refine va_sld hx hb hX hbl hbA hS (vp_in_nI (show i + 2 < L by omega) (by omega)) dL_law_720 ?_
  refine lm_i (As := [.int (xs (nI (i + 1)).toNatClampNeg), .int (xs (nI (i + 2)).toNatClampNeg)]) (rest := [.int r]) ⟨hx, hb, hml, hown, hts⟩ hMw (okR_cw 2 okw hts ngL_law_X4_latest rfl (by decide +kernel) (by decide)) hf hK hZ hP hD hS hA rfl hl.1 rfl (Nat.le_of_ble_eq_true rfl) dL_law_721 (fun H locs hP hD hS => ?_)
  refine lv_icmp_eq (tgt := 729) hx hb dL_law_724 (by decide) (fun _ => ?_) (fun z => absurd rfl z)
  refine W.widen (k := cells + 1) (n := slots + 6) (Nat.le_add_right _ _) (Nat.le_add_right _ _) ?_
  exact kk x' w' f H locs ls ho hcy hP hD hS hl
