/-! the law: its loop -/
def mL_law (nm : String) : am_M := (⟨RL, nm, "([I)Z"⟩, cL_law, 4, some FieldType.boolean, 11, 536, 600000, 7302250)
theorem nI_p (c d : Nat) : nI c + nI d = nI (c + d) := by first | exact nI_add c d | exact (nI_add c d).symm
section LAW
variable {nm : String} {l : Launch} {w : am_W} {h : am_H} {k z c : Nat} {Q : am_H → Nat → Option Value → Prop}
theorem Jt.obj (J : Jt h) : ∃ fs, h 1 = .inr (.inr (11, fs)) := by
  obtain ⟨ρ, β, κ, τ, ψ, z, i, S, hτ, M, N⟩ := J
  exact ⟨_, S.2.2.2.2.2.2.2.2.2.2⟩
set_option maxHeartbeats 1000000 in
theorem L_feed (hL : w.2.2.1 ≤ 2560) (hk : k ≤ 600000 ∧ z ≤ 7302250) (hc : c + 5 ≤ w.2.2.1) (J : Jt h) (kk : ∀ h2, Jt h2 → RW l w (mL_law nm) h2 90 k z 482 [(3, .int (nI c)), (2, .ref 61), (1, .ref 1), (0, .ref 0)] [] Q) : RW l w (mL_law nm) h 90 k z 96 [(3, .int (nI c)), (2, .ref 61), (1, .ref 1), (0, .ref 0)] [] Q := by
  have h31 : w.2.2.1 < 2 ^ 31 := by omega
  obtain ⟨fs1, o1⟩ := J.obj
  obtain ⟨a, Mid, C, D⟩ := J_feed (l := l) (w := w) (n := 90) J (Nat.le_refl _) (w.2.2.2.1 (c + 1)) (jlshl (w.2.2.2.1 (c + 2)).toInt64 32 ||| ((w.2.2.2.1 (c + 3)).toInt64 &&& 4294967295)) (w.2.2.2.1 (c + 4))
  refine R_aload_n (pc := 96) 2 dL_law_96 rfl rfl ?_
  refine R_aload_n (pc := 97) 3 dL_law_97 rfl rfl ?_
  refine R_iload_n (pc := 98) 0 dL_law_98 rfl rfl ?_
  refine R_iconst (pc := 99) (v := 1) dL_law_99 (by decide) ?_
  refine R_iadd (pc := 100) dL_law_100 ?_
  refine R_eqi (y := nI (c + 1)) (nI_p c 1) ?_
  refine R_sld (pc := 101) (j := c + 1) dL_law_101 ⟨rfl, by omega, h31⟩ ?_
  refine R_aload_n (pc := 102) 3 dL_law_102 rfl rfl ?_
  refine R_iload_n (pc := 103) 0 dL_law_103 rfl rfl ?_
  refine R_iconst (pc := 104) (v := 2) dL_law_104 (by decide) ?_
  refine R_iadd (pc := 105) dL_law_105 ?_
  refine R_eqi (y := nI (c + 2)) (nI_p c 2) ?_
  refine R_sld (pc := 106) (j := c + 2) dL_law_106 ⟨rfl, by omega, h31⟩ ?_
  refine R_i2l (pc := 107) dL_law_107 rfl ?_
  refine R_bipush (pc := 108) (v := 32) dL_law_108 (by decide) ?_
  refine R_lshl (pc := 110) (v := jlshl (w.2.2.2.1 (c + 2)).toInt64 32) dL_law_110 rfl ?_
  refine R_aload_n (pc := 111) 3 dL_law_111 rfl rfl ?_
  refine R_iload_n (pc := 112) 0 dL_law_112 rfl rfl ?_
  refine R_iconst (pc := 113) (v := 3) dL_law_113 (by decide) ?_
  refine R_iadd (pc := 114) dL_law_114 ?_
  refine R_eqi (y := nI (c + 3)) (nI_p c 3) ?_
  refine R_sld (pc := 115) (j := c + 3) dL_law_115 ⟨rfl, by omega, h31⟩ ?_
  refine R_i2l (pc := 116) dL_law_116 rfl ?_
  refine R_ldc2 (pc := 117) dL_law_117 cL_13 ?_
  refine R_land (pc := 120) dL_law_120 ?_
  refine R_lor (pc := 121) dL_law_121 ?_
  refine R_aload_n (pc := 122) 3 dL_law_122 rfl rfl ?_
  refine R_iload_n (pc := 123) 0 dL_law_123 rfl rfl ?_
  refine R_iconst (pc := 124) (v := 4) dL_law_124 (by decide) ?_
  refine R_iadd (pc := 125) dL_law_125 ?_
  refine R_eqi (y := nI (c + 4)) (nI_p c 4) ?_
  refine R_sld (pc := 126) (j := c + 4) dL_law_126 ⟨rfl, by omega, h31⟩ ?_
  refine R_callVh (pc := 127) (μ' := mX11_feed) (a := 1) (As := [.int (w.2.2.2.1 (c + 1)), .long (jlshl (w.2.2.2.1 (c + 2)).toInt64 32 ||| ((w.2.2.2.1 (c + 3)).toInt64 &&& 4294967295)), .int (w.2.2.2.1 (c + 4))]) (st := []) dL_law_127 zX11_feed lL_15 ⟨Nat.le_of_ble_eq_true rfl, Nat.le_of_ble_eq_true rfl⟩ rfl rfl hk o1 (by omega) rfl (Nat.le_of_ble_eq_true rfl) C (fun h1 r q => ?_)
  obtain ⟨rfl, hm⟩ := q
  obtain ⟨⟨fs2, o2⟩, D1⟩ := D h1 hm
  refine R_aload_n (pc := 130) 1 dL_law_130 rfl rfl ?_
  refine R_aload_n (pc := 131) 3 dL_law_131 rfl rfl ?_
  refine R_iload_n (pc := 132) 0 dL_law_132 rfl rfl ?_
  refine R_iconst (pc := 133) (v := 1) dL_law_133 (by decide) ?_
  refine R_iadd (pc := 134) dL_law_134 ?_
  refine R_eqi (y := nI (c + 1)) (nI_p c 1) ?_
  refine R_sld (pc := 135) (j := c + 1) dL_law_135 ⟨rfl, by omega, h31⟩ ?_
  refine R_aload_n (pc := 136) 3 dL_law_136 rfl rfl ?_
  refine R_iload_n (pc := 137) 0 dL_law_137 rfl rfl ?_
  refine R_iconst (pc := 138) (v := 2) dL_law_138 (by decide) ?_
  refine R_iadd (pc := 139) dL_law_139 ?_
  refine R_eqi (y := nI (c + 2)) (nI_p c 2) ?_
  refine R_sld (pc := 140) (j := c + 2) dL_law_140 ⟨rfl, by omega, h31⟩ ?_
  refine R_i2l (pc := 141) dL_law_141 rfl ?_
  refine R_bipush (pc := 142) (v := 32) dL_law_142 (by decide) ?_
  refine R_lshl (pc := 144) (v := jlshl (w.2.2.2.1 (c + 2)).toInt64 32) dL_law_144 rfl ?_
  refine R_aload_n (pc := 145) 3 dL_law_145 rfl rfl ?_
  refine R_iload_n (pc := 146) 0 dL_law_146 rfl rfl ?_
  refine R_iconst (pc := 147) (v := 3) dL_law_147 (by decide) ?_
  refine R_iadd (pc := 148) dL_law_148 ?_
  refine R_eqi (y := nI (c + 3)) (nI_p c 3) ?_
  refine R_sld (pc := 149) (j := c + 3) dL_law_149 ⟨rfl, by omega, h31⟩ ?_
  refine R_i2l (pc := 150) dL_law_150 rfl ?_
  refine R_ldc2 (pc := 151) dL_law_151 cL_13 ?_
  refine R_land (pc := 154) dL_law_154 ?_
  refine R_lor (pc := 155) dL_law_155 ?_
  refine R_aload_n (pc := 156) 3 dL_law_156 rfl rfl ?_
  refine R_iload_n (pc := 157) 0 dL_law_157 rfl rfl ?_
  refine R_iconst (pc := 158) (v := 4) dL_law_158 (by decide) ?_
  refine R_iadd (pc := 159) dL_law_159 ?_
  refine R_eqi (y := nI (c + 4)) (nI_p c 4) ?_
  refine R_sld (pc := 160) (j := c + 4) dL_law_160 ⟨rfl, by omega, h31⟩ ?_
  refine R_callVh (pc := 161) (μ' := mX12_feed) (a := 61) (As := [.int (w.2.2.2.1 (c + 1)), .long (jlshl (w.2.2.2.1 (c + 2)).toInt64 32 ||| ((w.2.2.2.1 (c + 3)).toInt64 &&& 4294967295)), .int (w.2.2.2.1 (c + 4))]) (st := [.int a]) dL_law_161 zX12_feed lL_19 ⟨Nat.le_of_ble_eq_true rfl, Nat.le_of_ble_eq_true rfl⟩ rfl rfl hk o2 (by omega) rfl (Nat.le_of_ble_eq_true rfl) D1 (fun h2 r q => ?_)
  obtain ⟨rfl, J2⟩ := q
  exact R_icmp_eq (pc := 164) (tgt := 482) dL_law_164 (by decide) (fun _ => kk h2 J2) (fun q => absurd rfl q)
set_option maxHeartbeats 1000000 in
theorem L_fill (hL : w.2.2.1 ≤ 2560) (hk : k ≤ 600000 ∧ z ≤ 7302250) (hc : c + 5 ≤ w.2.2.1) (J : Jt h) (kk : ∀ h2, Jt h2 → RW l w (mL_law nm) h2 90 k z 482 [(3, .int (nI c)), (2, .ref 61), (1, .ref 1), (0, .ref 0)] [] Q) : RW l w (mL_law nm) h 90 k z 169 [(3, .int (nI c)), (2, .ref 61), (1, .ref 1), (0, .ref 0)] [] Q := by
  have h31 : w.2.2.1 < 2 ^ 31 := by omega
  obtain ⟨fs1, o1⟩ := J.obj
  obtain ⟨a, Mid, C, D⟩ := J_fill (l := l) (w := w) (n := 90) J (Nat.le_refl _) (w.2.2.2.1 (c + 1)) (w.2.2.2.1 (c + 2)) (w.2.2.2.1 (c + 3))
  refine R_aload_n (pc := 169) 2 dL_law_169 rfl rfl ?_
  refine R_aload_n (pc := 170) 3 dL_law_170 rfl rfl ?_
  refine R_iload_n (pc := 171) 0 dL_law_171 rfl rfl ?_
  refine R_iconst (pc := 172) (v := 1) dL_law_172 (by decide) ?_
  refine R_iadd (pc := 173) dL_law_173 ?_
  refine R_eqi (y := nI (c + 1)) (nI_p c 1) ?_
  refine R_sld (pc := 174) (j := c + 1) dL_law_174 ⟨rfl, by omega, h31⟩ ?_
  refine R_aload_n (pc := 175) 3 dL_law_175 rfl rfl ?_
  refine R_iload_n (pc := 176) 0 dL_law_176 rfl rfl ?_
  refine R_iconst (pc := 177) (v := 2) dL_law_177 (by decide) ?_
  refine R_iadd (pc := 178) dL_law_178 ?_
  refine R_eqi (y := nI (c + 2)) (nI_p c 2) ?_
  refine R_sld (pc := 179) (j := c + 2) dL_law_179 ⟨rfl, by omega, h31⟩ ?_
  refine R_aload_n (pc := 180) 3 dL_law_180 rfl rfl ?_
  refine R_iload_n (pc := 181) 0 dL_law_181 rfl rfl ?_
  refine R_iconst (pc := 182) (v := 3) dL_law_182 (by decide) ?_
  refine R_iadd (pc := 183) dL_law_183 ?_
  refine R_eqi (y := nI (c + 3)) (nI_p c 3) ?_
  refine R_sld (pc := 184) (j := c + 3) dL_law_184 ⟨rfl, by omega, h31⟩ ?_
  refine R_callVh (pc := 185) (μ' := mX11_fill) (a := 1) (As := [.int (w.2.2.2.1 (c + 1)), .int (w.2.2.2.1 (c + 2)), .int (w.2.2.2.1 (c + 3))]) (st := []) dL_law_185 zX11_fill lL_20 ⟨Nat.le_of_ble_eq_true rfl, Nat.le_of_ble_eq_true rfl⟩ rfl rfl hk o1 (by omega) rfl (Nat.le_of_ble_eq_true rfl) C (fun h1 r q => ?_)
  obtain ⟨rfl, hm⟩ := q
  obtain ⟨⟨fs2, o2⟩, D1⟩ := D h1 hm
  refine R_aload_n (pc := 188) 1 dL_law_188 rfl rfl ?_
  refine R_aload_n (pc := 189) 3 dL_law_189 rfl rfl ?_
  refine R_iload_n (pc := 190) 0 dL_law_190 rfl rfl ?_
  refine R_iconst (pc := 191) (v := 1) dL_law_191 (by decide) ?_
  refine R_iadd (pc := 192) dL_law_192 ?_
  refine R_eqi (y := nI (c + 1)) (nI_p c 1) ?_
  refine R_sld (pc := 193) (j := c + 1) dL_law_193 ⟨rfl, by omega, h31⟩ ?_
  refine R_aload_n (pc := 194) 3 dL_law_194 rfl rfl ?_
  refine R_iload_n (pc := 195) 0 dL_law_195 rfl rfl ?_
  refine R_iconst (pc := 196) (v := 2) dL_law_196 (by decide) ?_
  refine R_iadd (pc := 197) dL_law_197 ?_
  refine R_eqi (y := nI (c + 2)) (nI_p c 2) ?_
  refine R_sld (pc := 198) (j := c + 2) dL_law_198 ⟨rfl, by omega, h31⟩ ?_
  refine R_aload_n (pc := 199) 3 dL_law_199 rfl rfl ?_
  refine R_iload_n (pc := 200) 0 dL_law_200 rfl rfl ?_
  refine R_iconst (pc := 201) (v := 3) dL_law_201 (by decide) ?_
  refine R_iadd (pc := 202) dL_law_202 ?_
  refine R_eqi (y := nI (c + 3)) (nI_p c 3) ?_
  refine R_sld (pc := 203) (j := c + 3) dL_law_203 ⟨rfl, by omega, h31⟩ ?_
  refine R_callVh (pc := 204) (μ' := mX12_fill) (a := 61) (As := [.int (w.2.2.2.1 (c + 1)), .int (w.2.2.2.1 (c + 2)), .int (w.2.2.2.1 (c + 3))]) (st := [.int a]) dL_law_204 zX12_fill lL_24 ⟨Nat.le_of_ble_eq_true rfl, Nat.le_of_ble_eq_true rfl⟩ rfl rfl hk o2 (by omega) rfl (Nat.le_of_ble_eq_true rfl) D1 (fun h2 r q => ?_)
  obtain ⟨rfl, J2⟩ := q
  exact R_icmp_eq (pc := 207) (tgt := 482) dL_law_207 (by decide) (fun _ => kk h2 J2) (fun q => absurd rfl q)
set_option maxHeartbeats 1000000 in
theorem L_alter (hL : w.2.2.1 ≤ 2560) (hk : k ≤ 600000 ∧ z ≤ 7302250) (hc : c + 5 ≤ w.2.2.1) (J : Jt h) (kk : ∀ h2, Jt h2 → RW l w (mL_law nm) h2 90 k z 482 [(3, .int (nI c)), (2, .ref 61), (1, .ref 1), (0, .ref 0)] [] Q) : RW l w (mL_law nm) h 90 k z 212 [(3, .int (nI c)), (2, .ref 61), (1, .ref 1), (0, .ref 0)] [] Q := by
  have h31 : w.2.2.1 < 2 ^ 31 := by omega
  obtain ⟨fs1, o1⟩ := J.obj
  obtain ⟨a, Mid, C, D⟩ := J_alter (l := l) (w := w) (n := 90) J (Nat.le_refl _) (w.2.2.2.1 (c + 1)) (w.2.2.2.1 (c + 2)) (w.2.2.2.1 (c + 3))
  refine R_aload_n (pc := 212) 2 dL_law_212 rfl rfl ?_
  refine R_aload_n (pc := 213) 3 dL_law_213 rfl rfl ?_
  refine R_iload_n (pc := 214) 0 dL_law_214 rfl rfl ?_
  refine R_iconst (pc := 215) (v := 1) dL_law_215 (by decide) ?_
  refine R_iadd (pc := 216) dL_law_216 ?_
  refine R_eqi (y := nI (c + 1)) (nI_p c 1) ?_
  refine R_sld (pc := 217) (j := c + 1) dL_law_217 ⟨rfl, by omega, h31⟩ ?_
  refine R_aload_n (pc := 218) 3 dL_law_218 rfl rfl ?_
  refine R_iload_n (pc := 219) 0 dL_law_219 rfl rfl ?_
  refine R_iconst (pc := 220) (v := 2) dL_law_220 (by decide) ?_
  refine R_iadd (pc := 221) dL_law_221 ?_
  refine R_eqi (y := nI (c + 2)) (nI_p c 2) ?_
  refine R_sld (pc := 222) (j := c + 2) dL_law_222 ⟨rfl, by omega, h31⟩ ?_
  refine R_aload_n (pc := 223) 3 dL_law_223 rfl rfl ?_
  refine R_iload_n (pc := 224) 0 dL_law_224 rfl rfl ?_
  refine R_iconst (pc := 225) (v := 3) dL_law_225 (by decide) ?_
  refine R_iadd (pc := 226) dL_law_226 ?_
  refine R_eqi (y := nI (c + 3)) (nI_p c 3) ?_
  refine R_sld (pc := 227) (j := c + 3) dL_law_227 ⟨rfl, by omega, h31⟩ ?_
  refine R_callVh (pc := 228) (μ' := mX11_alter) (a := 1) (As := [.int (w.2.2.2.1 (c + 1)), .int (w.2.2.2.1 (c + 2)), .int (w.2.2.2.1 (c + 3))]) (st := []) dL_law_228 zX11_alter lL_25 ⟨Nat.le_of_ble_eq_true rfl, Nat.le_of_ble_eq_true rfl⟩ rfl rfl hk o1 (by omega) rfl (Nat.le_of_ble_eq_true rfl) C (fun h1 r q => ?_)
  obtain ⟨rfl, hm⟩ := q
  obtain ⟨⟨fs2, o2⟩, D1⟩ := D h1 hm
  refine R_aload_n (pc := 231) 1 dL_law_231 rfl rfl ?_
  refine R_aload_n (pc := 232) 3 dL_law_232 rfl rfl ?_
  refine R_iload_n (pc := 233) 0 dL_law_233 rfl rfl ?_
  refine R_iconst (pc := 234) (v := 1) dL_law_234 (by decide) ?_
  refine R_iadd (pc := 235) dL_law_235 ?_
  refine R_eqi (y := nI (c + 1)) (nI_p c 1) ?_
  refine R_sld (pc := 236) (j := c + 1) dL_law_236 ⟨rfl, by omega, h31⟩ ?_
  refine R_aload_n (pc := 237) 3 dL_law_237 rfl rfl ?_
  refine R_iload_n (pc := 238) 0 dL_law_238 rfl rfl ?_
  refine R_iconst (pc := 239) (v := 2) dL_law_239 (by decide) ?_
  refine R_iadd (pc := 240) dL_law_240 ?_
  refine R_eqi (y := nI (c + 2)) (nI_p c 2) ?_
  refine R_sld (pc := 241) (j := c + 2) dL_law_241 ⟨rfl, by omega, h31⟩ ?_
  refine R_aload_n (pc := 242) 3 dL_law_242 rfl rfl ?_
  refine R_iload_n (pc := 243) 0 dL_law_243 rfl rfl ?_
  refine R_iconst (pc := 244) (v := 3) dL_law_244 (by decide) ?_
  refine R_iadd (pc := 245) dL_law_245 ?_
  refine R_eqi (y := nI (c + 3)) (nI_p c 3) ?_
  refine R_sld (pc := 246) (j := c + 3) dL_law_246 ⟨rfl, by omega, h31⟩ ?_
  refine R_callVh (pc := 247) (μ' := mX12_alter) (a := 61) (As := [.int (w.2.2.2.1 (c + 1)), .int (w.2.2.2.1 (c + 2)), .int (w.2.2.2.1 (c + 3))]) (st := [.int a]) dL_law_247 zX12_alter lL_28 ⟨Nat.le_of_ble_eq_true rfl, Nat.le_of_ble_eq_true rfl⟩ rfl rfl hk o2 (by omega) rfl (Nat.le_of_ble_eq_true rfl) D1 (fun h2 r q => ?_)
  obtain ⟨rfl, J2⟩ := q
  exact R_icmp_eq (pc := 250) (tgt := 482) dL_law_250 (by decide) (fun _ => kk h2 J2) (fun q => absurd rfl q)
set_option maxHeartbeats 1000000 in
theorem L_octet (hL : w.2.2.1 ≤ 2560) (hk : k ≤ 600000 ∧ z ≤ 7302250) (hc : c + 5 ≤ w.2.2.1) (J : Jt h) (kk : ∀ h2, Jt h2 → RW l w (mL_law nm) h2 90 k z 482 [(3, .int (nI c)), (2, .ref 61), (1, .ref 1), (0, .ref 0)] [] Q) : RW l w (mL_law nm) h 90 k z 255 [(3, .int (nI c)), (2, .ref 61), (1, .ref 1), (0, .ref 0)] [] Q := by
  have h31 : w.2.2.1 < 2 ^ 31 := by omega
  obtain ⟨fs1, o1⟩ := J.obj
  obtain ⟨a, Mid, C, D⟩ := J_octet (l := l) (w := w) (n := 90) J (Nat.le_refl _) (w.2.2.2.1 (c + 1)) (w.2.2.2.1 (c + 2))
  refine R_aload_n (pc := 255) 2 dL_law_255 rfl rfl ?_
  refine R_aload_n (pc := 256) 3 dL_law_256 rfl rfl ?_
  refine R_iload_n (pc := 257) 0 dL_law_257 rfl rfl ?_
  refine R_iconst (pc := 258) (v := 1) dL_law_258 (by decide) ?_
  refine R_iadd (pc := 259) dL_law_259 ?_
  refine R_eqi (y := nI (c + 1)) (nI_p c 1) ?_
  refine R_sld (pc := 260) (j := c + 1) dL_law_260 ⟨rfl, by omega, h31⟩ ?_
  refine R_aload_n (pc := 261) 3 dL_law_261 rfl rfl ?_
  refine R_iload_n (pc := 262) 0 dL_law_262 rfl rfl ?_
  refine R_iconst (pc := 263) (v := 2) dL_law_263 (by decide) ?_
  refine R_iadd (pc := 264) dL_law_264 ?_
  refine R_eqi (y := nI (c + 2)) (nI_p c 2) ?_
  refine R_sld (pc := 265) (j := c + 2) dL_law_265 ⟨rfl, by omega, h31⟩ ?_
  refine R_callVh (pc := 266) (μ' := mX11_octet) (a := 1) (As := [.int (w.2.2.2.1 (c + 1)), .int (w.2.2.2.1 (c + 2))]) (st := []) dL_law_266 zX11_octet lL_29 ⟨Nat.le_of_ble_eq_true rfl, Nat.le_of_ble_eq_true rfl⟩ rfl rfl hk o1 (by omega) rfl (Nat.le_of_ble_eq_true rfl) C (fun h1 r q => ?_)
  obtain ⟨rfl, hm⟩ := q
  obtain ⟨⟨fs2, o2⟩, D1⟩ := D h1 hm
  refine R_aload_n (pc := 269) 1 dL_law_269 rfl rfl ?_
  refine R_aload_n (pc := 270) 3 dL_law_270 rfl rfl ?_
  refine R_iload_n (pc := 271) 0 dL_law_271 rfl rfl ?_
  refine R_iconst (pc := 272) (v := 1) dL_law_272 (by decide) ?_
  refine R_iadd (pc := 273) dL_law_273 ?_
  refine R_eqi (y := nI (c + 1)) (nI_p c 1) ?_
  refine R_sld (pc := 274) (j := c + 1) dL_law_274 ⟨rfl, by omega, h31⟩ ?_
  refine R_aload_n (pc := 275) 3 dL_law_275 rfl rfl ?_
  refine R_iload_n (pc := 276) 0 dL_law_276 rfl rfl ?_
  refine R_iconst (pc := 277) (v := 2) dL_law_277 (by decide) ?_
  refine R_iadd (pc := 278) dL_law_278 ?_
  refine R_eqi (y := nI (c + 2)) (nI_p c 2) ?_
  refine R_sld (pc := 279) (j := c + 2) dL_law_279 ⟨rfl, by omega, h31⟩ ?_
  refine R_callVh (pc := 280) (μ' := mX12_octet) (a := 61) (As := [.int (w.2.2.2.1 (c + 1)), .int (w.2.2.2.1 (c + 2))]) (st := [.int a]) dL_law_280 zX12_octet lL_33 ⟨Nat.le_of_ble_eq_true rfl, Nat.le_of_ble_eq_true rfl⟩ rfl rfl hk o2 (by omega) rfl (Nat.le_of_ble_eq_true rfl) D1 (fun h2 r q => ?_)
  obtain ⟨rfl, J2⟩ := q
  exact R_icmp_eq (pc := 283) (tgt := 482) dL_law_283 (by decide) (fun _ => kk h2 J2) (fun q => absurd rfl q)
set_option maxHeartbeats 1000000 in
theorem L_cut (hL : w.2.2.1 ≤ 2560) (hk : k ≤ 600000 ∧ z ≤ 7302250) (hc : c + 5 ≤ w.2.2.1) (J : Jt h) (kk : ∀ h2, Jt h2 → RW l w (mL_law nm) h2 90 k z 482 [(3, .int (nI c)), (2, .ref 61), (1, .ref 1), (0, .ref 0)] [] Q) : RW l w (mL_law nm) h 90 k z 288 [(3, .int (nI c)), (2, .ref 61), (1, .ref 1), (0, .ref 0)] [] Q := by
  have h31 : w.2.2.1 < 2 ^ 31 := by omega
  obtain ⟨fs1, o1⟩ := J.obj
  obtain ⟨a, Mid, C, D⟩ := J_cut (l := l) (w := w) (n := 90) J (Nat.le_refl _) (w.2.2.2.1 (c + 1)) (w.2.2.2.1 (c + 2))
  refine R_aload_n (pc := 288) 2 dL_law_288 rfl rfl ?_
  refine R_aload_n (pc := 289) 3 dL_law_289 rfl rfl ?_
  refine R_iload_n (pc := 290) 0 dL_law_290 rfl rfl ?_
  refine R_iconst (pc := 291) (v := 1) dL_law_291 (by decide) ?_
  refine R_iadd (pc := 292) dL_law_292 ?_
  refine R_eqi (y := nI (c + 1)) (nI_p c 1) ?_
  refine R_sld (pc := 293) (j := c + 1) dL_law_293 ⟨rfl, by omega, h31⟩ ?_
  refine R_aload_n (pc := 294) 3 dL_law_294 rfl rfl ?_
  refine R_iload_n (pc := 295) 0 dL_law_295 rfl rfl ?_
  refine R_iconst (pc := 296) (v := 2) dL_law_296 (by decide) ?_
  refine R_iadd (pc := 297) dL_law_297 ?_
  refine R_eqi (y := nI (c + 2)) (nI_p c 2) ?_
  refine R_sld (pc := 298) (j := c + 2) dL_law_298 ⟨rfl, by omega, h31⟩ ?_
  refine R_callVh (pc := 299) (μ' := mX11_cut) (a := 1) (As := [.int (w.2.2.2.1 (c + 1)), .int (w.2.2.2.1 (c + 2))]) (st := []) dL_law_299 zX11_cut lL_34 ⟨Nat.le_of_ble_eq_true rfl, Nat.le_of_ble_eq_true rfl⟩ rfl rfl hk o1 (by omega) rfl (Nat.le_of_ble_eq_true rfl) C (fun h1 r q => ?_)
  obtain ⟨rfl, hm⟩ := q
  obtain ⟨⟨fs2, o2⟩, D1⟩ := D h1 hm
  refine R_aload_n (pc := 302) 1 dL_law_302 rfl rfl ?_
  refine R_aload_n (pc := 303) 3 dL_law_303 rfl rfl ?_
  refine R_iload_n (pc := 304) 0 dL_law_304 rfl rfl ?_
  refine R_iconst (pc := 305) (v := 1) dL_law_305 (by decide) ?_
  refine R_iadd (pc := 306) dL_law_306 ?_
  refine R_eqi (y := nI (c + 1)) (nI_p c 1) ?_
  refine R_sld (pc := 307) (j := c + 1) dL_law_307 ⟨rfl, by omega, h31⟩ ?_
  refine R_aload_n (pc := 308) 3 dL_law_308 rfl rfl ?_
  refine R_iload_n (pc := 309) 0 dL_law_309 rfl rfl ?_
  refine R_iconst (pc := 310) (v := 2) dL_law_310 (by decide) ?_
  refine R_iadd (pc := 311) dL_law_311 ?_
  refine R_eqi (y := nI (c + 2)) (nI_p c 2) ?_
  refine R_sld (pc := 312) (j := c + 2) dL_law_312 ⟨rfl, by omega, h31⟩ ?_
  refine R_callVh (pc := 313) (μ' := mX12_cut) (a := 61) (As := [.int (w.2.2.2.1 (c + 1)), .int (w.2.2.2.1 (c + 2))]) (st := [.int a]) dL_law_313 zX12_cut lL_37 ⟨Nat.le_of_ble_eq_true rfl, Nat.le_of_ble_eq_true rfl⟩ rfl rfl hk o2 (by omega) rfl (Nat.le_of_ble_eq_true rfl) D1 (fun h2 r q => ?_)
  obtain ⟨rfl, J2⟩ := q
  exact R_icmp_eq (pc := 316) (tgt := 482) dL_law_316 (by decide) (fun _ => kk h2 J2) (fun q => absurd rfl q)
set_option maxHeartbeats 1000000 in
theorem L_tag (hL : w.2.2.1 ≤ 2560) (hk : k ≤ 600000 ∧ z ≤ 7302250) (hc : c + 5 ≤ w.2.2.1) (J : Jt h) (kk : ∀ h2, Jt h2 → RW l w (mL_law nm) h2 90 k z 482 [(3, .int (nI c)), (2, .ref 61), (1, .ref 1), (0, .ref 0)] [] Q) : RW l w (mL_law nm) h 90 k z 321 [(3, .int (nI c)), (2, .ref 61), (1, .ref 1), (0, .ref 0)] [] Q := by
  have h31 : w.2.2.1 < 2 ^ 31 := by omega
  obtain ⟨fs1, o1⟩ := J.obj
  obtain ⟨a, Mid, C, D⟩ := J_tag (l := l) (w := w) (n := 90) J (Nat.le_refl _) (w.2.2.2.1 (c + 1))
  refine R_aload_n (pc := 321) 2 dL_law_321 rfl rfl ?_
  refine R_aload_n (pc := 322) 3 dL_law_322 rfl rfl ?_
  refine R_iload_n (pc := 323) 0 dL_law_323 rfl rfl ?_
  refine R_iconst (pc := 324) (v := 1) dL_law_324 (by decide) ?_
  refine R_iadd (pc := 325) dL_law_325 ?_
  refine R_eqi (y := nI (c + 1)) (nI_p c 1) ?_
  refine R_sld (pc := 326) (j := c + 1) dL_law_326 ⟨rfl, by omega, h31⟩ ?_
  refine R_callVh (pc := 327) (μ' := mX11_tag) (a := 1) (As := [.int (w.2.2.2.1 (c + 1))]) (st := []) dL_law_327 zX11_tag lL_38 ⟨Nat.le_of_ble_eq_true rfl, Nat.le_of_ble_eq_true rfl⟩ rfl rfl hk o1 (by omega) rfl (Nat.le_of_ble_eq_true rfl) C (fun h1 r q => ?_)
  obtain ⟨rfl, hm⟩ := q
  obtain ⟨⟨fs2, o2⟩, D1⟩ := D h1 hm
  refine R_aload_n (pc := 330) 1 dL_law_330 rfl rfl ?_
  refine R_aload_n (pc := 331) 3 dL_law_331 rfl rfl ?_
  refine R_iload_n (pc := 332) 0 dL_law_332 rfl rfl ?_
  refine R_iconst (pc := 333) (v := 1) dL_law_333 (by decide) ?_
  refine R_iadd (pc := 334) dL_law_334 ?_
  refine R_eqi (y := nI (c + 1)) (nI_p c 1) ?_
  refine R_sld (pc := 335) (j := c + 1) dL_law_335 ⟨rfl, by omega, h31⟩ ?_
  refine R_callVh (pc := 336) (μ' := mX12_tag) (a := 61) (As := [.int (w.2.2.2.1 (c + 1))]) (st := [.int a]) dL_law_336 zX12_tag lL_42 ⟨Nat.le_of_ble_eq_true rfl, Nat.le_of_ble_eq_true rfl⟩ rfl rfl hk o2 (by omega) rfl (Nat.le_of_ble_eq_true rfl) D1 (fun h2 r q => ?_)
  obtain ⟨rfl, J2⟩ := q
  exact R_icmp_eq (pc := 339) (tgt := 482) dL_law_339 (by decide) (fun _ => kk h2 J2) (fun q => absurd rfl q)
set_option maxHeartbeats 1000000 in
theorem L_seal (hL : w.2.2.1 ≤ 2560) (hk : k ≤ 600000 ∧ z ≤ 7302250) (hc : c + 5 ≤ w.2.2.1) (J : Jt h) (kk : ∀ h2, Jt h2 → RW l w (mL_law nm) h2 90 k z 482 [(3, .int (nI c)), (2, .ref 61), (1, .ref 1), (0, .ref 0)] [] Q) : RW l w (mL_law nm) h 90 k z 344 [(3, .int (nI c)), (2, .ref 61), (1, .ref 1), (0, .ref 0)] [] Q := by
  have h31 : w.2.2.1 < 2 ^ 31 := by omega
  obtain ⟨fs1, o1⟩ := J.obj
  obtain ⟨a, Mid, C, D⟩ := J_seal (l := l) (w := w) (n := 90) J (Nat.le_refl _) (w.2.2.2.1 (c + 1))
  refine R_aload_n (pc := 344) 2 dL_law_344 rfl rfl ?_
  refine R_aload_n (pc := 345) 3 dL_law_345 rfl rfl ?_
  refine R_iload_n (pc := 346) 0 dL_law_346 rfl rfl ?_
  refine R_iconst (pc := 347) (v := 1) dL_law_347 (by decide) ?_
  refine R_iadd (pc := 348) dL_law_348 ?_
  refine R_eqi (y := nI (c + 1)) (nI_p c 1) ?_
  refine R_sld (pc := 349) (j := c + 1) dL_law_349 ⟨rfl, by omega, h31⟩ ?_
  refine R_callVh (pc := 350) (μ' := mX11_seal) (a := 1) (As := [.int (w.2.2.2.1 (c + 1))]) (st := []) dL_law_350 zX11_seal lL_43 ⟨Nat.le_of_ble_eq_true rfl, Nat.le_of_ble_eq_true rfl⟩ rfl rfl hk o1 (by omega) rfl (Nat.le_of_ble_eq_true rfl) C (fun h1 r q => ?_)
  obtain ⟨rfl, hm⟩ := q
  obtain ⟨⟨fs2, o2⟩, D1⟩ := D h1 hm
  refine R_aload_n (pc := 353) 1 dL_law_353 rfl rfl ?_
  refine R_aload_n (pc := 354) 3 dL_law_354 rfl rfl ?_
  refine R_iload_n (pc := 355) 0 dL_law_355 rfl rfl ?_
  refine R_iconst (pc := 356) (v := 1) dL_law_356 (by decide) ?_
  refine R_iadd (pc := 357) dL_law_357 ?_
  refine R_eqi (y := nI (c + 1)) (nI_p c 1) ?_
  refine R_sld (pc := 358) (j := c + 1) dL_law_358 ⟨rfl, by omega, h31⟩ ?_
  refine R_callVh (pc := 359) (μ' := mX12_seal) (a := 61) (As := [.int (w.2.2.2.1 (c + 1))]) (st := [.int a]) dL_law_359 zX12_seal lL_46 ⟨Nat.le_of_ble_eq_true rfl, Nat.le_of_ble_eq_true rfl⟩ rfl rfl hk o2 (by omega) rfl (Nat.le_of_ble_eq_true rfl) D1 (fun h2 r q => ?_)
  obtain ⟨rfl, J2⟩ := q
  exact R_icmp_eq (pc := 362) (tgt := 482) dL_law_362 (by decide) (fun _ => kk h2 J2) (fun q => absurd rfl q)
set_option maxHeartbeats 1000000 in
theorem L_open (hL : w.2.2.1 ≤ 2560) (hk : k ≤ 600000 ∧ z ≤ 7302250) (hc : c + 5 ≤ w.2.2.1) (J : Jt h) (kk : ∀ h2, Jt h2 → RW l w (mL_law nm) h2 90 k z 482 [(3, .int (nI c)), (2, .ref 61), (1, .ref 1), (0, .ref 0)] [] Q) : RW l w (mL_law nm) h 90 k z 367 [(3, .int (nI c)), (2, .ref 61), (1, .ref 1), (0, .ref 0)] [] Q := by
  have h31 : w.2.2.1 < 2 ^ 31 := by omega
  obtain ⟨fs1, o1⟩ := J.obj
  obtain ⟨a, Mid, C, D⟩ := J_open (l := l) (w := w) (n := 90) J (Nat.le_refl _) (w.2.2.2.1 (c + 1))
  refine R_aload_n (pc := 367) 2 dL_law_367 rfl rfl ?_
  refine R_aload_n (pc := 368) 3 dL_law_368 rfl rfl ?_
  refine R_iload_n (pc := 369) 0 dL_law_369 rfl rfl ?_
  refine R_iconst (pc := 370) (v := 1) dL_law_370 (by decide) ?_
  refine R_iadd (pc := 371) dL_law_371 ?_
  refine R_eqi (y := nI (c + 1)) (nI_p c 1) ?_
  refine R_sld (pc := 372) (j := c + 1) dL_law_372 ⟨rfl, by omega, h31⟩ ?_
  refine R_callVh (pc := 373) (μ' := mX11_open) (a := 1) (As := [.int (w.2.2.2.1 (c + 1))]) (st := []) dL_law_373 zX11_open lL_47 ⟨Nat.le_of_ble_eq_true rfl, Nat.le_of_ble_eq_true rfl⟩ rfl rfl hk o1 (by omega) rfl (Nat.le_of_ble_eq_true rfl) C (fun h1 r q => ?_)
  obtain ⟨rfl, hm⟩ := q
  obtain ⟨⟨fs2, o2⟩, D1⟩ := D h1 hm
  refine R_aload_n (pc := 376) 1 dL_law_376 rfl rfl ?_
  refine R_aload_n (pc := 377) 3 dL_law_377 rfl rfl ?_
  refine R_iload_n (pc := 378) 0 dL_law_378 rfl rfl ?_
  refine R_iconst (pc := 379) (v := 1) dL_law_379 (by decide) ?_
  refine R_iadd (pc := 380) dL_law_380 ?_
  refine R_eqi (y := nI (c + 1)) (nI_p c 1) ?_
  refine R_sld (pc := 381) (j := c + 1) dL_law_381 ⟨rfl, by omega, h31⟩ ?_
  refine R_callVh (pc := 382) (μ' := mX12_open) (a := 61) (As := [.int (w.2.2.2.1 (c + 1))]) (st := [.int a]) dL_law_382 zX12_open lL_50 ⟨Nat.le_of_ble_eq_true rfl, Nat.le_of_ble_eq_true rfl⟩ rfl rfl hk o2 (by omega) rfl (Nat.le_of_ble_eq_true rfl) D1 (fun h2 r q => ?_)
  obtain ⟨rfl, J2⟩ := q
  exact R_icmp_eq (pc := 385) (tgt := 482) dL_law_385 (by decide) (fun _ => kk h2 J2) (fun q => absurd rfl q)
set_option maxHeartbeats 1000000 in
theorem L_sum (hL : w.2.2.1 ≤ 2560) (hk : k ≤ 600000 ∧ z ≤ 7302250) (hc : c + 5 ≤ w.2.2.1) (J : Jt h) (kk : ∀ h2, Jt h2 → RW l w (mL_law nm) h2 90 k z 482 [(3, .int (nI c)), (2, .ref 61), (1, .ref 1), (0, .ref 0)] [] Q) : RW l w (mL_law nm) h 90 k z 390 [(3, .int (nI c)), (2, .ref 61), (1, .ref 1), (0, .ref 0)] [] Q := by
  have h31 : w.2.2.1 < 2 ^ 31 := by omega
  obtain ⟨fs1, o1⟩ := J.obj
  obtain ⟨a, Mid, C, D⟩ := J_sum (l := l) (w := w) (n := 90) J (Nat.le_refl _) (w.2.2.2.1 (c + 1))
  refine R_aload_n (pc := 390) 2 dL_law_390 rfl rfl ?_
  refine R_aload_n (pc := 391) 3 dL_law_391 rfl rfl ?_
  refine R_iload_n (pc := 392) 0 dL_law_392 rfl rfl ?_
  refine R_iconst (pc := 393) (v := 1) dL_law_393 (by decide) ?_
  refine R_iadd (pc := 394) dL_law_394 ?_
  refine R_eqi (y := nI (c + 1)) (nI_p c 1) ?_
  refine R_sld (pc := 395) (j := c + 1) dL_law_395 ⟨rfl, by omega, h31⟩ ?_
  refine R_callVh (pc := 396) (μ' := mX11_sum) (a := 1) (As := [.int (w.2.2.2.1 (c + 1))]) (st := []) dL_law_396 zX11_sum lL_51 ⟨Nat.le_of_ble_eq_true rfl, Nat.le_of_ble_eq_true rfl⟩ rfl rfl hk o1 (by omega) rfl (Nat.le_of_ble_eq_true rfl) C (fun h1 r q => ?_)
  obtain ⟨rfl, hm⟩ := q
  obtain ⟨⟨fs2, o2⟩, D1⟩ := D h1 hm
  refine R_aload_n (pc := 399) 1 dL_law_399 rfl rfl ?_
  refine R_aload_n (pc := 400) 3 dL_law_400 rfl rfl ?_
  refine R_iload_n (pc := 401) 0 dL_law_401 rfl rfl ?_
  refine R_iconst (pc := 402) (v := 1) dL_law_402 (by decide) ?_
  refine R_iadd (pc := 403) dL_law_403 ?_
  refine R_eqi (y := nI (c + 1)) (nI_p c 1) ?_
  refine R_sld (pc := 404) (j := c + 1) dL_law_404 ⟨rfl, by omega, h31⟩ ?_
  refine R_callVh (pc := 405) (μ' := mX12_sum) (a := 61) (As := [.int (w.2.2.2.1 (c + 1))]) (st := [.int a]) dL_law_405 zX12_sum lL_54 ⟨Nat.le_of_ble_eq_true rfl, Nat.le_of_ble_eq_true rfl⟩ rfl rfl hk o2 (by omega) rfl (Nat.le_of_ble_eq_true rfl) D1 (fun h2 r q => ?_)
  obtain ⟨rfl, J2⟩ := q
  exact R_icmp_eq (pc := 408) (tgt := 482) dL_law_408 (by decide) (fun _ => kk h2 J2) (fun q => absurd rfl q)
set_option maxHeartbeats 1000000 in
theorem L_out (hL : w.2.2.1 ≤ 2560) (hk : k ≤ 600000 ∧ z ≤ 7302250) (hc : c + 5 ≤ w.2.2.1) (J : Jt h) (kk : ∀ h2, Jt h2 → RW l w (mL_law nm) h2 90 k z 482 [(3, .int (nI c)), (2, .ref 61), (1, .ref 1), (0, .ref 0)] [] Q) : RW l w (mL_law nm) h 90 k z 413 [(3, .int (nI c)), (2, .ref 61), (1, .ref 1), (0, .ref 0)] [] Q := by
  have h31 : w.2.2.1 < 2 ^ 31 := by omega
  obtain ⟨fs1, o1⟩ := J.obj
  obtain ⟨a, Mid, C, D⟩ := J_out (l := l) (w := w) (n := 90) J (Nat.le_refl _) (w.2.2.2.1 (c + 1))
  refine R_aload_n (pc := 413) 2 dL_law_413 rfl rfl ?_
  refine R_aload_n (pc := 414) 3 dL_law_414 rfl rfl ?_
  refine R_iload_n (pc := 415) 0 dL_law_415 rfl rfl ?_
  refine R_iconst (pc := 416) (v := 1) dL_law_416 (by decide) ?_
  refine R_iadd (pc := 417) dL_law_417 ?_
  refine R_eqi (y := nI (c + 1)) (nI_p c 1) ?_
  refine R_sld (pc := 418) (j := c + 1) dL_law_418 ⟨rfl, by omega, h31⟩ ?_
  refine R_callVh (pc := 419) (μ' := mX11_out) (a := 1) (As := [.int (w.2.2.2.1 (c + 1))]) (st := []) dL_law_419 zX11_out lL_55 ⟨Nat.le_of_ble_eq_true rfl, Nat.le_of_ble_eq_true rfl⟩ rfl rfl hk o1 (by omega) rfl (Nat.le_of_ble_eq_true rfl) C (fun h1 r q => ?_)
  obtain ⟨rfl, hm⟩ := q
  obtain ⟨⟨fs2, o2⟩, D1⟩ := D h1 hm
  refine R_aload_n (pc := 422) 1 dL_law_422 rfl rfl ?_
  refine R_aload_n (pc := 423) 3 dL_law_423 rfl rfl ?_
  refine R_iload_n (pc := 424) 0 dL_law_424 rfl rfl ?_
  refine R_iconst (pc := 425) (v := 1) dL_law_425 (by decide) ?_
  refine R_iadd (pc := 426) dL_law_426 ?_
  refine R_eqi (y := nI (c + 1)) (nI_p c 1) ?_
  refine R_sld (pc := 427) (j := c + 1) dL_law_427 ⟨rfl, by omega, h31⟩ ?_
  refine R_callVh (pc := 428) (μ' := mX12_out) (a := 61) (As := [.int (w.2.2.2.1 (c + 1))]) (st := [.int a]) dL_law_428 zX12_out lL_58 ⟨Nat.le_of_ble_eq_true rfl, Nat.le_of_ble_eq_true rfl⟩ rfl rfl hk o2 (by omega) rfl (Nat.le_of_ble_eq_true rfl) D1 (fun h2 r q => ?_)
  obtain ⟨rfl, J2⟩ := q
  exact R_icmp_eq (pc := 431) (tgt := 482) dL_law_431 (by decide) (fun _ => kk h2 J2) (fun q => absurd rfl q)
set_option maxHeartbeats 1000000 in
theorem L_take (hL : w.2.2.1 ≤ 2560) (hk : k ≤ 600000 ∧ z ≤ 7302250) (hc : c + 5 ≤ w.2.2.1) (J : Jt h) (kk : ∀ h2, Jt h2 → RW l w (mL_law nm) h2 90 k z 482 [(3, .int (nI c)), (2, .ref 61), (1, .ref 1), (0, .ref 0)] [] Q) : RW l w (mL_law nm) h 90 k z 436 [(3, .int (nI c)), (2, .ref 61), (1, .ref 1), (0, .ref 0)] [] Q := by
  have h31 : w.2.2.1 < 2 ^ 31 := by omega
  obtain ⟨fs1, o1⟩ := J.obj
  obtain ⟨a, Mid, C, D⟩ := J_take (l := l) (w := w) (n := 90) J (Nat.le_refl _) (w.2.2.2.1 (c + 1))
  refine R_aload_n (pc := 436) 2 dL_law_436 rfl rfl ?_
  refine R_aload_n (pc := 437) 3 dL_law_437 rfl rfl ?_
  refine R_iload_n (pc := 438) 0 dL_law_438 rfl rfl ?_
  refine R_iconst (pc := 439) (v := 1) dL_law_439 (by decide) ?_
  refine R_iadd (pc := 440) dL_law_440 ?_
  refine R_eqi (y := nI (c + 1)) (nI_p c 1) ?_
  refine R_sld (pc := 441) (j := c + 1) dL_law_441 ⟨rfl, by omega, h31⟩ ?_
  refine R_callVh (pc := 442) (μ' := mX11_take) (a := 1) (As := [.int (w.2.2.2.1 (c + 1))]) (st := []) dL_law_442 zX11_take lL_59 ⟨Nat.le_of_ble_eq_true rfl, Nat.le_of_ble_eq_true rfl⟩ rfl rfl hk o1 (by omega) rfl (Nat.le_of_ble_eq_true rfl) C (fun h1 r q => ?_)
  obtain ⟨rfl, hm⟩ := q
  obtain ⟨⟨fs2, o2⟩, D1⟩ := D h1 hm
  refine R_aload_n (pc := 445) 1 dL_law_445 rfl rfl ?_
  refine R_aload_n (pc := 446) 3 dL_law_446 rfl rfl ?_
  refine R_iload_n (pc := 447) 0 dL_law_447 rfl rfl ?_
  refine R_iconst (pc := 448) (v := 1) dL_law_448 (by decide) ?_
  refine R_iadd (pc := 449) dL_law_449 ?_
  refine R_eqi (y := nI (c + 1)) (nI_p c 1) ?_
  refine R_sld (pc := 450) (j := c + 1) dL_law_450 ⟨rfl, by omega, h31⟩ ?_
  refine R_callVh (pc := 451) (μ' := mX12_take) (a := 61) (As := [.int (w.2.2.2.1 (c + 1))]) (st := [.int a]) dL_law_451 zX12_take lL_62 ⟨Nat.le_of_ble_eq_true rfl, Nat.le_of_ble_eq_true rfl⟩ rfl rfl hk o2 (by omega) rfl (Nat.le_of_ble_eq_true rfl) D1 (fun h2 r q => ?_)
  obtain ⟨rfl, J2⟩ := q
  exact R_icmp_eq (pc := 454) (tgt := 482) dL_law_454 (by decide) (fun _ => kk h2 J2) (fun q => absurd rfl q)
set_option maxHeartbeats 1000000 in
theorem L_roundKey (hL : w.2.2.1 ≤ 2560) (hk : k ≤ 600000 ∧ z ≤ 7302250) (hc : c + 5 ≤ w.2.2.1) (J : Jt h) (kk : ∀ h2, Jt h2 → RW l w (mL_law nm) h2 90 k z 482 [(3, .int (nI c)), (2, .ref 61), (1, .ref 1), (0, .ref 0)] [] Q) : RW l w (mL_law nm) h 90 k z 459 [(3, .int (nI c)), (2, .ref 61), (1, .ref 1), (0, .ref 0)] [] Q := by
  have h31 : w.2.2.1 < 2 ^ 31 := by omega
  obtain ⟨fs1, o1⟩ := J.obj
  obtain ⟨a, Mid, C, D⟩ := J_roundKey (l := l) (w := w) (n := 90) J (Nat.le_refl _) (w.2.2.2.1 (c + 1))
  refine R_aload_n (pc := 459) 2 dL_law_459 rfl rfl ?_
  refine R_aload_n (pc := 460) 3 dL_law_460 rfl rfl ?_
  refine R_iload_n (pc := 461) 0 dL_law_461 rfl rfl ?_
  refine R_iconst (pc := 462) (v := 1) dL_law_462 (by decide) ?_
  refine R_iadd (pc := 463) dL_law_463 ?_
  refine R_eqi (y := nI (c + 1)) (nI_p c 1) ?_
  refine R_sld (pc := 464) (j := c + 1) dL_law_464 ⟨rfl, by omega, h31⟩ ?_
  refine R_callVh (pc := 465) (μ' := mX11_roundKey) (a := 1) (As := [.int (w.2.2.2.1 (c + 1))]) (st := []) dL_law_465 zX11_roundKey lL_63 ⟨Nat.le_of_ble_eq_true rfl, Nat.le_of_ble_eq_true rfl⟩ rfl rfl hk o1 (by omega) rfl (Nat.le_of_ble_eq_true rfl) C (fun h1 r q => ?_)
  obtain ⟨rfl, hm⟩ := q
  obtain ⟨⟨fs2, o2⟩, D1⟩ := D h1 hm
  refine R_aload_n (pc := 468) 1 dL_law_468 rfl rfl ?_
  refine R_aload_n (pc := 469) 3 dL_law_469 rfl rfl ?_
  refine R_iload_n (pc := 470) 0 dL_law_470 rfl rfl ?_
  refine R_iconst (pc := 471) (v := 1) dL_law_471 (by decide) ?_
  refine R_iadd (pc := 472) dL_law_472 ?_
  refine R_eqi (y := nI (c + 1)) (nI_p c 1) ?_
  refine R_sld (pc := 473) (j := c + 1) dL_law_473 ⟨rfl, by omega, h31⟩ ?_
  refine R_callVh (pc := 474) (μ' := mX12_roundKey) (a := 61) (As := [.int (w.2.2.2.1 (c + 1))]) (st := [.int a]) dL_law_474 zX12_roundKey lL_66 ⟨Nat.le_of_ble_eq_true rfl, Nat.le_of_ble_eq_true rfl⟩ rfl rfl hk o2 (by omega) rfl (Nat.le_of_ble_eq_true rfl) D1 (fun h2 r q => ?_)
  obtain ⟨rfl, J2⟩ := q
  exact R_icmp_eq (pc := 477) (tgt := 482) dL_law_477 (by decide) (fun _ => kk h2 J2) (fun q => absurd rfl q)
end LAW
