/-! THE LAW'S does: the class's calls, their exceptions as numbers -/
/-- how a call ends: its code, the class's state and the answer where it is 0, nothing changed where not -/
def kDP (G : kG) (S T : kSt) (o : Int64) (K : Prop) (C e1 e2 e3 res : Int32) (R1 : kSt → Prop) (r : Int32) (ad1 : kAd) (ct1 : kCt) : Prop :=
  K ∧ ((C = 0 ∧ r = res ∧ ∃ S1, R1 S1 ∧ ct1 = cto G S1 T o ad1) ∨ (C = 1 ∧ r = e1 ∧ ct1 = cto G S T o ad1) ∨ (C = 2 ∧ r = e2 ∧ ct1 = cto G S T o ad1) ∨ (C = 3 ∧ r = e3 ∧ ct1 = cto G S T o ad1))
theorem dL_does_0 : decode cL_does 0 = .ok (.iload_n 1, 1) := by decide +kernel
theorem dL_does_1 : decode cL_does 1 = .ok (.ifCond .ne 11, 3) := by decide +kernel
theorem dL_does_4 : decode cL_does 4 = .ok (.aload_n 0, 1) := by decide +kernel
theorem dL_does_5 : decode cL_does 5 = .ok (.iload_n 2, 1) := by decide +kernel
theorem dL_does_6 : decode cL_does 6 = .ok (.invokevirtual 8, 3) := by decide +kernel
theorem dL_does_9 : decode cL_does 9 = .ok (.goto 277, 3) := by decide +kernel
theorem dL_does_12 : decode cL_does 12 = .ok (.iload_n 1, 1) := by decide +kernel
theorem dL_does_13 : decode cL_does 13 = .ok (.iconst 1, 1) := by decide +kernel
theorem dL_does_14 : decode cL_does 14 = .ok (.if_icmp .ne 12, 3) := by decide +kernel
theorem dL_does_17 : decode cL_does 17 = .ok (.aload_n 0, 1) := by decide +kernel
theorem dL_does_18 : decode cL_does 18 = .ok (.iload_n 2, 1) := by decide +kernel
theorem dL_does_19 : decode cL_does 19 = .ok (.iload_n 3, 1) := by decide +kernel
theorem dL_does_20 : decode cL_does 20 = .ok (.invokevirtual 14, 3) := by decide +kernel
theorem dL_does_23 : decode cL_does 23 = .ok (.goto 263, 3) := by decide +kernel
theorem dL_does_26 : decode cL_does 26 = .ok (.iload_n 1, 1) := by decide +kernel
theorem dL_does_27 : decode cL_does 27 = .ok (.iconst 2, 1) := by decide +kernel
theorem dL_does_28 : decode cL_does 28 = .ok (.if_icmp .ne 12, 3) := by decide +kernel
theorem dL_does_31 : decode cL_does 31 = .ok (.aload_n 0, 1) := by decide +kernel
theorem dL_does_32 : decode cL_does 32 = .ok (.iload_n 2, 1) := by decide +kernel
theorem dL_does_33 : decode cL_does 33 = .ok (.iload_n 3, 1) := by decide +kernel
theorem dL_does_34 : decode cL_does 34 = .ok (.invokevirtual 18, 3) := by decide +kernel
theorem dL_does_37 : decode cL_does 37 = .ok (.goto 249, 3) := by decide +kernel
theorem dL_does_40 : decode cL_does 40 = .ok (.iload_n 1, 1) := by decide +kernel
theorem dL_does_41 : decode cL_does 41 = .ok (.iconst 3, 1) := by decide +kernel
theorem dL_does_42 : decode cL_does 42 = .ok (.if_icmp .ne 12, 3) := by decide +kernel
theorem dL_does_45 : decode cL_does 45 = .ok (.aload_n 0, 1) := by decide +kernel
theorem dL_does_46 : decode cL_does 46 = .ok (.iload_n 2, 1) := by decide +kernel
theorem dL_does_47 : decode cL_does 47 = .ok (.iload_n 3, 1) := by decide +kernel
theorem dL_does_48 : decode cL_does 48 = .ok (.invokevirtual 21, 3) := by decide +kernel
theorem dL_does_51 : decode cL_does 51 = .ok (.goto 235, 3) := by decide +kernel
theorem dL_does_54 : decode cL_does 54 = .ok (.iload_n 1, 1) := by decide +kernel
theorem dL_does_55 : decode cL_does 55 = .ok (.iconst 4, 1) := by decide +kernel
theorem dL_does_56 : decode cL_does 56 = .ok (.if_icmp .ne 14, 3) := by decide +kernel
theorem dL_does_59 : decode cL_does 59 = .ok (.aload_n 0, 1) := by decide +kernel
theorem dL_does_60 : decode cL_does 60 = .ok (.iload_n 2, 1) := by decide +kernel
theorem dL_does_61 : decode cL_does 61 = .ok (.iload_n 3, 1) := by decide +kernel
theorem dL_does_62 : decode cL_does 62 = .ok (.iload 4, 2) := by decide +kernel
theorem dL_does_64 : decode cL_does 64 = .ok (.invokevirtual 24, 3) := by decide +kernel
theorem dL_does_67 : decode cL_does 67 = .ok (.goto 219, 3) := by decide +kernel
theorem dL_does_70 : decode cL_does 70 = .ok (.iload_n 1, 1) := by decide +kernel
theorem dL_does_71 : decode cL_does 71 = .ok (.iconst 5, 1) := by decide +kernel
theorem dL_does_72 : decode cL_does 72 = .ok (.if_icmp .ne 12, 3) := by decide +kernel
theorem dL_does_75 : decode cL_does 75 = .ok (.aload_n 0, 1) := by decide +kernel
theorem dL_does_76 : decode cL_does 76 = .ok (.iload_n 2, 1) := by decide +kernel
theorem dL_does_77 : decode cL_does 77 = .ok (.iload_n 3, 1) := by decide +kernel
theorem dL_does_78 : decode cL_does 78 = .ok (.invokevirtual 28, 3) := by decide +kernel
theorem dL_does_81 : decode cL_does 81 = .ok (.goto 205, 3) := by decide +kernel
theorem dL_does_84 : decode cL_does 84 = .ok (.iload_n 1, 1) := by decide +kernel
theorem dL_does_85 : decode cL_does 85 = .ok (.bipush 6, 2) := by decide +kernel
theorem dL_does_87 : decode cL_does 87 = .ok (.if_icmp .ne 14, 3) := by decide +kernel
theorem dL_does_90 : decode cL_does 90 = .ok (.aload_n 0, 1) := by decide +kernel
theorem dL_does_91 : decode cL_does 91 = .ok (.iload_n 2, 1) := by decide +kernel
theorem dL_does_92 : decode cL_does 92 = .ok (.iload_n 3, 1) := by decide +kernel
theorem dL_does_93 : decode cL_does 93 = .ok (.iload 4, 2) := by decide +kernel
theorem dL_does_95 : decode cL_does 95 = .ok (.invokevirtual 31, 3) := by decide +kernel
theorem dL_does_98 : decode cL_does 98 = .ok (.goto 188, 3) := by decide +kernel
theorem dL_does_101 : decode cL_does 101 = .ok (.iload_n 1, 1) := by decide +kernel
theorem dL_does_102 : decode cL_does 102 = .ok (.bipush 7, 2) := by decide +kernel
theorem dL_does_104 : decode cL_does 104 = .ok (.if_icmp .ne 14, 3) := by decide +kernel
theorem dL_does_107 : decode cL_does 107 = .ok (.aload_n 0, 1) := by decide +kernel
theorem dL_does_108 : decode cL_does 108 = .ok (.iload_n 2, 1) := by decide +kernel
theorem dL_does_109 : decode cL_does 109 = .ok (.iload_n 3, 1) := by decide +kernel
theorem dL_does_110 : decode cL_does 110 = .ok (.iload 4, 2) := by decide +kernel
theorem dL_does_112 : decode cL_does 112 = .ok (.invokevirtual 34, 3) := by decide +kernel
theorem dL_does_115 : decode cL_does 115 = .ok (.goto 171, 3) := by decide +kernel
theorem dL_does_118 : decode cL_does 118 = .ok (.iload_n 1, 1) := by decide +kernel
theorem dL_does_119 : decode cL_does 119 = .ok (.bipush 8, 2) := by decide +kernel
theorem dL_does_121 : decode cL_does 121 = .ok (.if_icmp .ne 16, 3) := by decide +kernel
theorem dL_does_124 : decode cL_does 124 = .ok (.aload_n 0, 1) := by decide +kernel
theorem dL_does_125 : decode cL_does 125 = .ok (.iload_n 2, 1) := by decide +kernel
theorem dL_does_126 : decode cL_does 126 = .ok (.iload_n 3, 1) := by decide +kernel
theorem dL_does_127 : decode cL_does 127 = .ok (.iload 4, 2) := by decide +kernel
theorem dL_does_129 : decode cL_does 129 = .ok (.iload 5, 2) := by decide +kernel
theorem dL_does_131 : decode cL_does 131 = .ok (.invokevirtual 37, 3) := by decide +kernel
theorem dL_does_134 : decode cL_does 134 = .ok (.goto 152, 3) := by decide +kernel
theorem dL_does_137 : decode cL_does 137 = .ok (.iload_n 1, 1) := by decide +kernel
theorem dL_does_138 : decode cL_does 138 = .ok (.bipush 9, 2) := by decide +kernel
theorem dL_does_140 : decode cL_does 140 = .ok (.if_icmp .ne 12, 3) := by decide +kernel
theorem dL_does_143 : decode cL_does 143 = .ok (.aload_n 0, 1) := by decide +kernel
theorem dL_does_144 : decode cL_does 144 = .ok (.iload_n 2, 1) := by decide +kernel
theorem dL_does_145 : decode cL_does 145 = .ok (.iload_n 3, 1) := by decide +kernel
theorem dL_does_146 : decode cL_does 146 = .ok (.invokevirtual 41, 3) := by decide +kernel
theorem dL_does_149 : decode cL_does 149 = .ok (.goto 137, 3) := by decide +kernel
theorem dL_does_152 : decode cL_does 152 = .ok (.iload_n 1, 1) := by decide +kernel
theorem dL_does_153 : decode cL_does 153 = .ok (.bipush 10, 2) := by decide +kernel
theorem dL_does_155 : decode cL_does 155 = .ok (.if_icmp .ne 19, 3) := by decide +kernel
theorem dL_does_158 : decode cL_does 158 = .ok (.aload_n 0, 1) := by decide +kernel
theorem dL_does_159 : decode cL_does 159 = .ok (.iload_n 2, 1) := by decide +kernel
theorem dL_does_160 : decode cL_does 160 = .ok (.invokevirtual 44, 3) := by decide +kernel
theorem dL_does_163 : decode cL_does 163 = .ok (.ifCond .eq 7, 3) := by decide +kernel
theorem dL_does_166 : decode cL_does 166 = .ok (.iconst 1, 1) := by decide +kernel
theorem dL_does_167 : decode cL_does 167 = .ok (.goto 119, 3) := by decide +kernel
theorem dL_does_170 : decode cL_does 170 = .ok (.iconst 0, 1) := by decide +kernel
theorem dL_does_171 : decode cL_does 171 = .ok (.goto 115, 3) := by decide +kernel
theorem dL_does_174 : decode cL_does 174 = .ok (.iload_n 1, 1) := by decide +kernel
theorem dL_does_175 : decode cL_does 175 = .ok (.bipush 11, 2) := by decide +kernel
theorem dL_does_177 : decode cL_does 177 = .ok (.if_icmp .ne 11, 3) := by decide +kernel
theorem dL_does_180 : decode cL_does 180 = .ok (.aload_n 0, 1) := by decide +kernel
theorem dL_does_181 : decode cL_does 181 = .ok (.iload_n 2, 1) := by decide +kernel
theorem dL_does_182 : decode cL_does 182 = .ok (.invokevirtual 48, 3) := by decide +kernel
theorem dL_does_185 : decode cL_does 185 = .ok (.goto 101, 3) := by decide +kernel
theorem dL_does_188 : decode cL_does 188 = .ok (.iload_n 1, 1) := by decide +kernel
theorem dL_does_189 : decode cL_does 189 = .ok (.bipush 12, 2) := by decide +kernel
theorem dL_does_191 : decode cL_does 191 = .ok (.if_icmp .ne 11, 3) := by decide +kernel
theorem dL_does_194 : decode cL_does 194 = .ok (.aload_n 0, 1) := by decide +kernel
theorem dL_does_195 : decode cL_does 195 = .ok (.iload_n 2, 1) := by decide +kernel
theorem dL_does_196 : decode cL_does 196 = .ok (.invokevirtual 51, 3) := by decide +kernel
theorem dL_does_199 : decode cL_does 199 = .ok (.goto 87, 3) := by decide +kernel
theorem dL_does_202 : decode cL_does 202 = .ok (.iload_n 1, 1) := by decide +kernel
theorem dL_does_203 : decode cL_does 203 = .ok (.bipush 13, 2) := by decide +kernel
theorem dL_does_205 : decode cL_does 205 = .ok (.if_icmp .ne 12, 3) := by decide +kernel
theorem dL_does_208 : decode cL_does 208 = .ok (.aload_n 0, 1) := by decide +kernel
theorem dL_does_209 : decode cL_does 209 = .ok (.iload_n 2, 1) := by decide +kernel
theorem dL_does_210 : decode cL_does 210 = .ok (.iload_n 3, 1) := by decide +kernel
theorem dL_does_211 : decode cL_does 211 = .ok (.invokevirtual 54, 3) := by decide +kernel
theorem dL_does_214 : decode cL_does 214 = .ok (.goto 72, 3) := by decide +kernel
theorem dL_does_217 : decode cL_does 217 = .ok (.iload_n 1, 1) := by decide +kernel
theorem dL_does_218 : decode cL_does 218 = .ok (.bipush 14, 2) := by decide +kernel
theorem dL_does_220 : decode cL_does 220 = .ok (.if_icmp .ne 31, 3) := by decide +kernel
theorem dL_does_223 : decode cL_does 223 = .ok (.aload_n 0, 1) := by decide +kernel
theorem dL_does_224 : decode cL_does 224 = .ok (.iload_n 2, 1) := by decide +kernel
theorem dL_does_225 : decode cL_does 225 = .ok (.iload_n 3, 1) := by decide +kernel
theorem dL_does_226 : decode cL_does 226 = .ok (.iload 4, 2) := by decide +kernel
theorem dL_does_228 : decode cL_does 228 = .ok (.iconst 1, 1) := by decide +kernel
theorem dL_does_229 : decode cL_does 229 = .ok (.if_icmp .ne 7, 3) := by decide +kernel
theorem dL_does_232 : decode cL_does 232 = .ok (.iconst 1, 1) := by decide +kernel
theorem dL_does_233 : decode cL_does 233 = .ok (.goto 4, 3) := by decide +kernel
theorem dL_does_236 : decode cL_does 236 = .ok (.iconst 0, 1) := by decide +kernel
theorem dL_does_237 : decode cL_does 237 = .ok (.invokevirtual 57, 3) := by decide +kernel
theorem dL_does_240 : decode cL_does 240 = .ok (.ifCond .eq 7, 3) := by decide +kernel
theorem dL_does_243 : decode cL_does 243 = .ok (.iconst 1, 1) := by decide +kernel
theorem dL_does_244 : decode cL_does 244 = .ok (.goto 42, 3) := by decide +kernel
theorem dL_does_247 : decode cL_does 247 = .ok (.iconst 0, 1) := by decide +kernel
theorem dL_does_248 : decode cL_does 248 = .ok (.goto 38, 3) := by decide +kernel
theorem dL_does_251 : decode cL_does 251 = .ok (.iload_n 1, 1) := by decide +kernel
theorem dL_does_252 : decode cL_does 252 = .ok (.bipush 15, 2) := by decide +kernel
theorem dL_does_254 : decode cL_does 254 = .ok (.if_icmp .ne 12, 3) := by decide +kernel
theorem dL_does_257 : decode cL_does 257 = .ok (.aload_n 0, 1) := by decide +kernel
theorem dL_does_258 : decode cL_does 258 = .ok (.iload_n 2, 1) := by decide +kernel
theorem dL_does_259 : decode cL_does 259 = .ok (.iload_n 3, 1) := by decide +kernel
theorem dL_does_260 : decode cL_does 260 = .ok (.invokevirtual 61, 3) := by decide +kernel
theorem dL_does_263 : decode cL_does 263 = .ok (.goto 23, 3) := by decide +kernel
theorem dL_does_266 : decode cL_does 266 = .ok (.iload_n 1, 1) := by decide +kernel
theorem dL_does_267 : decode cL_does 267 = .ok (.bipush 16, 2) := by decide +kernel
theorem dL_does_269 : decode cL_does 269 = .ok (.if_icmp .ne 12, 3) := by decide +kernel
theorem dL_does_272 : decode cL_does 272 = .ok (.aload_n 0, 1) := by decide +kernel
theorem dL_does_273 : decode cL_does 273 = .ok (.iload_n 2, 1) := by decide +kernel
theorem dL_does_274 : decode cL_does 274 = .ok (.iload_n 3, 1) := by decide +kernel
theorem dL_does_275 : decode cL_does 275 = .ok (.invokevirtual 64, 3) := by decide +kernel
theorem dL_does_278 : decode cL_does 278 = .ok (.goto 8, 3) := by decide +kernel
theorem dL_does_281 : decode cL_does 281 = .ok (.aload_n 0, 1) := by decide +kernel
theorem dL_does_282 : decode cL_does 282 = .ok (.iload_n 2, 1) := by decide +kernel
theorem dL_does_283 : decode cL_does 283 = .ok (.invokevirtual 67, 3) := by decide +kernel
theorem dL_does_286 : decode cL_does 286 = .ok (.ireturn, 1) := by decide +kernel
theorem dL_does_287 : decode cL_does 287 = .ok (.astore 6, 2) := by decide +kernel
theorem dL_does_289 : decode cL_does 289 = .ok (.ldc 72, 2) := by decide +kernel
theorem dL_does_291 : decode cL_does 291 = .ok (.ireturn, 1) := by decide +kernel
theorem dL_does_292 : decode cL_does 292 = .ok (.astore 6, 2) := by decide +kernel
theorem dL_does_294 : decode cL_does 294 = .ok (.ldc 75, 2) := by decide +kernel
theorem dL_does_296 : decode cL_does 296 = .ok (.ireturn, 1) := by decide +kernel
theorem dL_does_297 : decode cL_does 297 = .ok (.astore 6, 2) := by decide +kernel
theorem dL_does_299 : decode cL_does 299 = .ok (.ldc 78, 2) := by decide +kernel
theorem dL_does_301 : decode cL_does 301 = .ok (.ireturn, 1) := by decide +kernel
set_option maxHeartbeats 4000000 in
set_option maxRecDepth 100000 in
theorem c_L_does_0 (l : Launch) (E : State) (G : kG) (S T : kSt) (o : Int64) (ad : kAd) (xr y1 y2 y3 : Int32) (hE : kE l E G) (hS : okN S) (hL : okL S) : vx_Met l yL_does (.codeWith yL_does cL_does 7 (some .int) [(0, 286, 287, 70), (0, 286, 292, 73), (0, 286, 297, 76)] :: wsL_law) ({ frames := 16, cells := 20, slots := 400, locals := 460 } : Room) (va_Pc [.ref (ad 0 0), .int 0, .int xr, .int y1, .int y2, .int y3] (kPre E G ad (cto G S T o ad))) (kQi E G (fun r ad1 ct1 => kDP G S T o (AK ad ad1) (cUser S xr) (-2000000) (-1000000) 0 (nI (S.2 0 0)) (fun S1 => ∃ cap : Nat, capok (S.2 0 0) cap ∧ S1 = gU S xr cap) r ad1 ct1)) (kXC E G (fun _ _ _ => False)) 20 400 (kB E.heap.size) := by
  refine vx_ofWH (cc := cL_does) (maxL := 7) (ret := (some .int)) (by decide) rfl ?_
  intro p e s m args below meth c s₁ B hml hv
  obtain ⟨rfl, hM, hK, hW0⟩ := hv
  have hlocks := B.notSynchronized
  have hr := B.returns
  have Z : kZ p m c cL_does 7 s _ wsL_law RL E G := ⟨⟨B.exec, B.bytes, hml, findClass_of_methodNamed B.named, fun w h => atoms_spec (ws := .codeWith yL_does cL_does 7 (some .int) [(0, 286, 287, 70), (0, 286, 292, 73), (0, 286, 297, 76)] :: wsL_law) B.pre w (List.mem_cons_of_mem _ h)⟩, hM, hK⟩
  have hx := Z.1.1
  have hb := Z.1.2.1
  have X := kX.of hW0
  have hl := lv_entry ([.ref (ad 0 0), .int 0, .int xr, .int y1, .int y2, .int y3]) (n := 7) (Nat.le_of_ble_eq_true rfl)
  rw [lg_entry_eq]
  generalize (lg_sl ([.ref (ad 0 0), .int 0, .int xr, .int y1, .int y2, .int y3]) ++ List.replicate (7 - (lg_sl ([.ref (ad 0 0), .int 0, .int xr, .int y1, .int y2, .int y3])).length) Slot.unset).toArray = ls at hl ⊢
  have hl : lv_has ls 7 [(0, .ref (ad 0 0)), (1, .int 0), (2, .int xr), (3, .int y1), (4, .int y2), (5, .int y3)] := hl
  have htab := vx_table (x := yL_does) B (atoms_spec (ws := .codeWith yL_does cL_does 7 (some .int) [(0, 286, 287, 70), (0, 286, 292, 73), (0, 286, 297, 76)] :: wsL_law) B.pre _ List.mem_cons_self)
  refine lv_iload_n hx hb dL_does_0 rfl (lv_at hl 1 rfl) ?_
  refine lv_if_ne (tgt := 12) hx hb dL_does_1 (by decide) (fun c_1 => ?_) (fun c_1 => ?_)
  · exact absurd c_1 (by decide)
  · refine lv_aload_n hx hb dL_does_4 rfl (lv_at hl 0 rfl) ?_
    refine lv_iload_n hx hb dL_does_5 rfl (lv_at hl 2 rfl) ?_
    refine k_xRi X (k_xrunV (As := [.int xr]) (rest := []) Z X (c_X7_user l E G S T o ad xr hE hS hL) (k_cwV 1 Z.1.2.2.2.2 (inU_6 _ (List.mem_of_getElem? (i := 8) rfl)) (inU_6 _ (List.mem_of_getElem? (i := 9) rfl)) (inU_6 _ (List.mem_of_getElem? (i := 10) rfl)) (inU_1 _ (List.mem_of_getElem? (i := 2) rfl)) (inU_6 _ (List.mem_of_getElem? (i := 11) rfl)) rfl rfl (by decide +kernel) ⟨Nat.le_of_ble_eq_true rfl, Nat.le_of_ble_eq_true rfl⟩) (k_recv Z X ct_0 rfl) rfl hl.1 rfl (Nat.le_of_ble_eq_true rfl) dL_does_6 ⟨(Nat.le_of_ble_eq_true rfl), (Nat.le_of_ble_eq_true rfl)⟩) (fun x ce q9 ad1 ct1 H locs hp X x1 x2 x3 => ?_) (fun r_6 ad1 ct1 H locs hp X => ?_)
    · obtain ⟨hq, ha_, hb_⟩ := hp
      rw [← ha_, hb_] at X
      rcases hq with ⟨hk, rfl⟩ | ⟨hk, rfl⟩
      · refine vx_catch (own := RL) (name := "java/lang/IllegalArgumentException") (E := "java/lang/IllegalArgumentException") Z.1.2.2.2.1 [⟨0, 286, 287, 70⟩] ⟨0, 286, 292, 73⟩ [⟨0, 286, 297, 76⟩] (htab.trans rfl) (by intro z hz; simp only [List.mem_cons, List.not_mem_nil, or_false] at hz; rcases hz with rfl; exact Or.inr ⟨by decide, _, (Z.1.2.2.2.2 _ (inU_6 _ (List.mem_of_getElem? (i := 7) rfl))), hE.nc Z.2.1 (by decide)⟩) rfl (by decide) (hE.word Z.2.1 (List.mem_of_getElem? (i := 14) rfl)) (hE.word Z.2.1 (List.mem_of_getElem? (i := 0) rfl)) x1 x2 x3 ?_
        refine lv_astore (lv' := [(6, .ref q9), (0, .ref (ad 0 0)), (1, .int 0), (2, .int xr), (3, .int y1), (4, .int y2), (5, .int y3)]) hx hb dL_does_292 hl (by decide) rfl (fun ls hl => ?_)
        refine lv_ldc (v := (-2000000)) hx hb Z.1.2.2.2.1 (Z.1.2.2.2.2 _ (inU_1 _ (List.mem_of_getElem? (i := 4) rfl))) dL_does_294 ?_
        exact vx_ret (k_iret Z X hr hlocks rfl (Nat.le_of_ble_eq_true rfl) (Nat.le_of_ble_eq_true rfl) dL_does_296 ⟨AK.rf, Or.inr (Or.inl ⟨hk, rfl, rfl⟩)⟩)
      · refine vx_catch (own := RL) (name := "java/lang/IllegalStateException") (E := "java/lang/IllegalStateException") Z.1.2.2.2.1 [⟨0, 286, 287, 70⟩, ⟨0, 286, 292, 73⟩] ⟨0, 286, 297, 76⟩ [] (htab.trans rfl) (by intro z hz; simp only [List.mem_cons, List.not_mem_nil, or_false] at hz; rcases hz with rfl | rfl <;> first | exact Or.inr ⟨by decide, _, (Z.1.2.2.2.2 _ (inU_6 _ (List.mem_of_getElem? (i := 7) rfl))), hE.nc Z.2.1 (by decide)⟩ | exact Or.inr ⟨by decide, _, (hE.word Z.2.1 (List.mem_of_getElem? (i := 14) rfl)), hE.nc Z.2.1 (by decide)⟩) rfl (by decide) (hE.word Z.2.1 (List.mem_of_getElem? (i := 13) rfl)) (hE.word Z.2.1 (List.mem_of_getElem? (i := 1) rfl)) x1 x2 x3 ?_
        refine lv_astore (lv' := [(6, .ref q9), (0, .ref (ad 0 0)), (1, .int 0), (2, .int xr), (3, .int y1), (4, .int y2), (5, .int y3)]) hx hb dL_does_297 hl (by decide) rfl (fun ls hl => ?_)
        refine lv_ldc (v := (-1000000)) hx hb Z.1.2.2.2.1 (Z.1.2.2.2.2 _ (inU_1 _ (List.mem_of_getElem? (i := 8) rfl))) dL_does_299 ?_
        exact vx_ret (k_iret Z X hr hlocks rfl (Nat.le_of_ble_eq_true rfl) (Nat.le_of_ble_eq_true rfl) dL_does_301 ⟨AK.rf, Or.inr (Or.inr (Or.inl ⟨hk, rfl, rfl⟩))⟩)
    obtain ⟨⟨hk, rfl⟩, hAK, cap, hcap, hb_⟩ := hp
    rw [hb_] at X
    refine lv_goto (tgt := 286) hx hb dL_does_9 (by decide) ?_
    exact vx_ret (k_iret Z X hr hlocks rfl (Nat.le_of_ble_eq_true rfl) (Nat.le_of_ble_eq_true rfl) dL_does_286 ⟨hAK, Or.inl ⟨hk, rfl, _, ⟨cap, hcap, rfl⟩, rfl⟩⟩)
set_option maxHeartbeats 4000000 in
set_option maxRecDepth 100000 in
theorem c_L_does_1 (l : Launch) (E : State) (G : kG) (S T : kSt) (o : Int64) (ad : kAd) (xu xr y2 y3 : Int32) (hE : kE l E G) (hS : okN S) (hL : okL S) (hK9 : okK S) : vx_Met l yL_does (.codeWith yL_does cL_does 7 (some .int) [(0, 286, 287, 70), (0, 286, 292, 73), (0, 286, 297, 76)] :: wsL_law) ({ frames := 16, cells := 20, slots := 400, locals := 460 } : Room) (va_Pc [.ref (ad 0 0), .int 1, .int xu, .int xr, .int y2, .int y3] (kPre E G ad (cto G S T o ad))) (kQi E G (fun r ad1 ct1 => kDP G S T o (ad = ad1) (cRole S xu xr) (-3000000) (-2000000) 0 (S.1 1 (cl xu)) (fun S1 => S1 = oRole S (kdS S) xu xr) r ad1 ct1)) (kXC E G (fun _ _ _ => False)) 20 400 (kB E.heap.size) := by
  refine vx_ofWH (cc := cL_does) (maxL := 7) (ret := (some .int)) (by decide) rfl ?_
  intro p e s m args below meth c s₁ B hml hv
  obtain ⟨rfl, hM, hK, hW0⟩ := hv
  have hlocks := B.notSynchronized
  have hr := B.returns
  have Z : kZ p m c cL_does 7 s _ wsL_law RL E G := ⟨⟨B.exec, B.bytes, hml, findClass_of_methodNamed B.named, fun w h => atoms_spec (ws := .codeWith yL_does cL_does 7 (some .int) [(0, 286, 287, 70), (0, 286, 292, 73), (0, 286, 297, 76)] :: wsL_law) B.pre w (List.mem_cons_of_mem _ h)⟩, hM, hK⟩
  have hx := Z.1.1
  have hb := Z.1.2.1
  have X := kX.of hW0
  have hl := lv_entry ([.ref (ad 0 0), .int 1, .int xu, .int xr, .int y2, .int y3]) (n := 7) (Nat.le_of_ble_eq_true rfl)
  rw [lg_entry_eq]
  generalize (lg_sl ([.ref (ad 0 0), .int 1, .int xu, .int xr, .int y2, .int y3]) ++ List.replicate (7 - (lg_sl ([.ref (ad 0 0), .int 1, .int xu, .int xr, .int y2, .int y3])).length) Slot.unset).toArray = ls at hl ⊢
  have hl : lv_has ls 7 [(0, .ref (ad 0 0)), (1, .int 1), (2, .int xu), (3, .int xr), (4, .int y2), (5, .int y3)] := hl
  have htab := vx_table (x := yL_does) B (atoms_spec (ws := .codeWith yL_does cL_does 7 (some .int) [(0, 286, 287, 70), (0, 286, 292, 73), (0, 286, 297, 76)] :: wsL_law) B.pre _ List.mem_cons_self)
  refine lv_iload_n hx hb dL_does_0 rfl (lv_at hl 1 rfl) ?_
  refine lv_if_ne (tgt := 12) hx hb dL_does_1 (by decide) (fun c_1 => ?_) (fun c_1 => ?_)
  · refine lv_iload_n hx hb dL_does_12 rfl (lv_at hl 1 rfl) ?_
    refine lv_iconst (v := 1) hx hb dL_does_13 (by decide) ?_
    refine lv_icmp_ne (tgt := 26) hx hb dL_does_14 (by decide) (fun c_14 => ?_) (fun c_14 => ?_)
    · exact absurd c_14 (by decide)
    · refine lv_aload_n hx hb dL_does_17 rfl (lv_at hl 0 rfl) ?_
      refine lv_iload_n hx hb dL_does_18 rfl (lv_at hl 2 rfl) ?_
      refine lv_iload_n hx hb dL_does_19 rfl (lv_at hl 3 rfl) ?_
      refine k_xRi X (k_xrunV (As := [.int xu, .int xr]) (rest := []) Z X (c_X7_role l E G S T o ad xu xr hE hS hL hK9) (k_cwV 2 Z.1.2.2.2.2 (inU_7 _ (List.mem_of_getElem? (i := 13) rfl)) (inU_7 _ (List.mem_of_getElem? (i := 14) rfl)) (inU_7 _ (List.mem_of_getElem? (i := 15) rfl)) (inU_1 _ (List.mem_of_getElem? (i := 2) rfl)) (inU_7 _ (List.mem_of_getElem? (i := 16) rfl)) rfl rfl (by decide +kernel) ⟨Nat.le_of_ble_eq_true rfl, Nat.le_of_ble_eq_true rfl⟩) (k_recv Z X ct_0 rfl) rfl hl.1 rfl (Nat.le_of_ble_eq_true rfl) dL_does_20 ⟨(Nat.le_of_ble_eq_true rfl), (Nat.le_of_ble_eq_true rfl)⟩) (fun x ce q9 ad1 ct1 H locs hp X x1 x2 x3 => ?_) (fun r_20 ad1 ct1 H locs hp X => ?_)
      · obtain ⟨hq, ha_, hb_⟩ := hp
        rw [← ha_, hb_] at X
        rcases hq with ⟨hk, rfl⟩ | ⟨hk, rfl⟩
        · refine vx_catch (own := RL) (name := "java/lang/IndexOutOfBoundsException") (E := "java/lang/IndexOutOfBoundsException") Z.1.2.2.2.1 [] ⟨0, 286, 287, 70⟩ [⟨0, 286, 292, 73⟩, ⟨0, 286, 297, 76⟩] (htab.trans rfl) (fun z hz => nomatch hz) rfl (by decide) (Z.1.2.2.2.2 _ (inU_6 _ (List.mem_of_getElem? (i := 7) rfl))) (hE.word Z.2.1 (List.mem_of_getElem? (i := 2) rfl)) x1 x2 x3 ?_
          refine lv_astore (lv' := [(6, .ref q9), (0, .ref (ad 0 0)), (1, .int 1), (2, .int xu), (3, .int xr), (4, .int y2), (5, .int y3)]) hx hb dL_does_287 hl (by decide) rfl (fun ls hl => ?_)
          refine lv_ldc (v := (-3000000)) hx hb Z.1.2.2.2.1 (Z.1.2.2.2.2 _ (inU_1 _ (List.mem_of_getElem? (i := 5) rfl))) dL_does_289 ?_
          exact vx_ret (k_iret Z X hr hlocks rfl (Nat.le_of_ble_eq_true rfl) (Nat.le_of_ble_eq_true rfl) dL_does_291 ⟨rfl, Or.inr (Or.inl ⟨hk, rfl, rfl⟩)⟩)
        · refine vx_catch (own := RL) (name := "java/lang/IllegalArgumentException") (E := "java/lang/IllegalArgumentException") Z.1.2.2.2.1 [⟨0, 286, 287, 70⟩] ⟨0, 286, 292, 73⟩ [⟨0, 286, 297, 76⟩] (htab.trans rfl) (by intro z hz; simp only [List.mem_cons, List.not_mem_nil, or_false] at hz; rcases hz with rfl; exact Or.inr ⟨by decide, _, (Z.1.2.2.2.2 _ (inU_6 _ (List.mem_of_getElem? (i := 7) rfl))), hE.nc Z.2.1 (by decide)⟩) rfl (by decide) (hE.word Z.2.1 (List.mem_of_getElem? (i := 14) rfl)) (hE.word Z.2.1 (List.mem_of_getElem? (i := 0) rfl)) x1 x2 x3 ?_
          refine lv_astore (lv' := [(6, .ref q9), (0, .ref (ad 0 0)), (1, .int 1), (2, .int xu), (3, .int xr), (4, .int y2), (5, .int y3)]) hx hb dL_does_292 hl (by decide) rfl (fun ls hl => ?_)
          refine lv_ldc (v := (-2000000)) hx hb Z.1.2.2.2.1 (Z.1.2.2.2.2 _ (inU_1 _ (List.mem_of_getElem? (i := 4) rfl))) dL_does_294 ?_
          exact vx_ret (k_iret Z X hr hlocks rfl (Nat.le_of_ble_eq_true rfl) (Nat.le_of_ble_eq_true rfl) dL_does_296 ⟨rfl, Or.inr (Or.inr (Or.inl ⟨hk, rfl, rfl⟩))⟩)
      obtain ⟨⟨hk, rfl⟩, ha_, hb_⟩ := hp
      rw [← ha_, hb_] at X
      refine lv_goto (tgt := 286) hx hb dL_does_23 (by decide) ?_
      exact vx_ret (k_iret Z X hr hlocks rfl (Nat.le_of_ble_eq_true rfl) (Nat.le_of_ble_eq_true rfl) dL_does_286 ⟨rfl, Or.inl ⟨hk, rfl, _, rfl, rfl⟩⟩)
  · exact absurd c_1 (by decide)
set_option maxHeartbeats 4000000 in
set_option maxRecDepth 100000 in
theorem c_L_does_2 (l : Launch) (E : State) (G : kG) (S T : kSt) (o : Int64) (ad : kAd) (xu xh y2 y3 : Int32) (hE : kE l E G) (hS : okN S) (hL : okL S) (hK9 : okK S) : vx_Met l yL_does (.codeWith yL_does cL_does 7 (some .int) [(0, 286, 287, 70), (0, 286, 292, 73), (0, 286, 297, 76)] :: wsL_law) ({ frames := 16, cells := 20, slots := 400, locals := 460 } : Room) (va_Pc [.ref (ad 0 0), .int 2, .int xu, .int xh, .int y2, .int y3] (kPre E G ad (cto G S T o ad))) (kQi E G (fun r ad1 ct1 => kDP G S T o (ad = ad1) (cEnds S xu xh) (-3000000) (-2000000) 0 (vEnds S xh) (fun S1 => S1 = oEnds S (kdS S) xu xh) r ad1 ct1)) (kXC E G (fun _ _ _ => False)) 20 400 (kB E.heap.size) := by
  refine vx_ofWH (cc := cL_does) (maxL := 7) (ret := (some .int)) (by decide) rfl ?_
  intro p e s m args below meth c s₁ B hml hv
  obtain ⟨rfl, hM, hK, hW0⟩ := hv
  have hlocks := B.notSynchronized
  have hr := B.returns
  have Z : kZ p m c cL_does 7 s _ wsL_law RL E G := ⟨⟨B.exec, B.bytes, hml, findClass_of_methodNamed B.named, fun w h => atoms_spec (ws := .codeWith yL_does cL_does 7 (some .int) [(0, 286, 287, 70), (0, 286, 292, 73), (0, 286, 297, 76)] :: wsL_law) B.pre w (List.mem_cons_of_mem _ h)⟩, hM, hK⟩
  have hx := Z.1.1
  have hb := Z.1.2.1
  have X := kX.of hW0
  have hl := lv_entry ([.ref (ad 0 0), .int 2, .int xu, .int xh, .int y2, .int y3]) (n := 7) (Nat.le_of_ble_eq_true rfl)
  rw [lg_entry_eq]
  generalize (lg_sl ([.ref (ad 0 0), .int 2, .int xu, .int xh, .int y2, .int y3]) ++ List.replicate (7 - (lg_sl ([.ref (ad 0 0), .int 2, .int xu, .int xh, .int y2, .int y3])).length) Slot.unset).toArray = ls at hl ⊢
  have hl : lv_has ls 7 [(0, .ref (ad 0 0)), (1, .int 2), (2, .int xu), (3, .int xh), (4, .int y2), (5, .int y3)] := hl
  have htab := vx_table (x := yL_does) B (atoms_spec (ws := .codeWith yL_does cL_does 7 (some .int) [(0, 286, 287, 70), (0, 286, 292, 73), (0, 286, 297, 76)] :: wsL_law) B.pre _ List.mem_cons_self)
  refine lv_iload_n hx hb dL_does_0 rfl (lv_at hl 1 rfl) ?_
  refine lv_if_ne (tgt := 12) hx hb dL_does_1 (by decide) (fun c_1 => ?_) (fun c_1 => ?_)
  · refine lv_iload_n hx hb dL_does_12 rfl (lv_at hl 1 rfl) ?_
    refine lv_iconst (v := 1) hx hb dL_does_13 (by decide) ?_
    refine lv_icmp_ne (tgt := 26) hx hb dL_does_14 (by decide) (fun c_14 => ?_) (fun c_14 => ?_)
    · refine lv_iload_n hx hb dL_does_26 rfl (lv_at hl 1 rfl) ?_
      refine lv_iconst (v := 2) hx hb dL_does_27 (by decide) ?_
      refine lv_icmp_ne (tgt := 40) hx hb dL_does_28 (by decide) (fun c_28 => ?_) (fun c_28 => ?_)
      · exact absurd c_28 (by decide)
      · refine lv_aload_n hx hb dL_does_31 rfl (lv_at hl 0 rfl) ?_
        refine lv_iload_n hx hb dL_does_32 rfl (lv_at hl 2 rfl) ?_
        refine lv_iload_n hx hb dL_does_33 rfl (lv_at hl 3 rfl) ?_
        refine k_xRi X (k_xrunV (As := [.int xu, .int xh]) (rest := []) Z X (c_X7_ends l E G S T o ad xu xh hE hS hL hK9) (k_cwV 2 Z.1.2.2.2.2 (inU_10 _ (List.mem_of_getElem? (i := 3) rfl)) (inU_10 _ (List.mem_of_getElem? (i := 4) rfl)) (inU_10 _ (List.mem_of_getElem? (i := 5) rfl)) (inU_1 _ (List.mem_of_getElem? (i := 2) rfl)) (inU_10 _ (List.mem_of_getElem? (i := 6) rfl)) rfl rfl (by decide +kernel) ⟨Nat.le_of_ble_eq_true rfl, Nat.le_of_ble_eq_true rfl⟩) (k_recv Z X ct_0 rfl) rfl hl.1 rfl (Nat.le_of_ble_eq_true rfl) dL_does_34 ⟨(Nat.le_of_ble_eq_true rfl), (Nat.le_of_ble_eq_true rfl)⟩) (fun x ce q9 ad1 ct1 H locs hp X x1 x2 x3 => ?_) (fun r_34 ad1 ct1 H locs hp X => ?_)
        · obtain ⟨hq, ha_, hb_⟩ := hp
          rw [← ha_, hb_] at X
          rcases hq with ⟨hk, rfl⟩ | ⟨hk, rfl⟩
          · refine vx_catch (own := RL) (name := "java/lang/IndexOutOfBoundsException") (E := "java/lang/IndexOutOfBoundsException") Z.1.2.2.2.1 [] ⟨0, 286, 287, 70⟩ [⟨0, 286, 292, 73⟩, ⟨0, 286, 297, 76⟩] (htab.trans rfl) (fun z hz => nomatch hz) rfl (by decide) (Z.1.2.2.2.2 _ (inU_6 _ (List.mem_of_getElem? (i := 7) rfl))) (hE.word Z.2.1 (List.mem_of_getElem? (i := 2) rfl)) x1 x2 x3 ?_
            refine lv_astore (lv' := [(6, .ref q9), (0, .ref (ad 0 0)), (1, .int 2), (2, .int xu), (3, .int xh), (4, .int y2), (5, .int y3)]) hx hb dL_does_287 hl (by decide) rfl (fun ls hl => ?_)
            refine lv_ldc (v := (-3000000)) hx hb Z.1.2.2.2.1 (Z.1.2.2.2.2 _ (inU_1 _ (List.mem_of_getElem? (i := 5) rfl))) dL_does_289 ?_
            exact vx_ret (k_iret Z X hr hlocks rfl (Nat.le_of_ble_eq_true rfl) (Nat.le_of_ble_eq_true rfl) dL_does_291 ⟨rfl, Or.inr (Or.inl ⟨hk, rfl, rfl⟩)⟩)
          · refine vx_catch (own := RL) (name := "java/lang/IllegalArgumentException") (E := "java/lang/IllegalArgumentException") Z.1.2.2.2.1 [⟨0, 286, 287, 70⟩] ⟨0, 286, 292, 73⟩ [⟨0, 286, 297, 76⟩] (htab.trans rfl) (by intro z hz; simp only [List.mem_cons, List.not_mem_nil, or_false] at hz; rcases hz with rfl; exact Or.inr ⟨by decide, _, (Z.1.2.2.2.2 _ (inU_6 _ (List.mem_of_getElem? (i := 7) rfl))), hE.nc Z.2.1 (by decide)⟩) rfl (by decide) (hE.word Z.2.1 (List.mem_of_getElem? (i := 14) rfl)) (hE.word Z.2.1 (List.mem_of_getElem? (i := 0) rfl)) x1 x2 x3 ?_
            refine lv_astore (lv' := [(6, .ref q9), (0, .ref (ad 0 0)), (1, .int 2), (2, .int xu), (3, .int xh), (4, .int y2), (5, .int y3)]) hx hb dL_does_292 hl (by decide) rfl (fun ls hl => ?_)
            refine lv_ldc (v := (-2000000)) hx hb Z.1.2.2.2.1 (Z.1.2.2.2.2 _ (inU_1 _ (List.mem_of_getElem? (i := 4) rfl))) dL_does_294 ?_
            exact vx_ret (k_iret Z X hr hlocks rfl (Nat.le_of_ble_eq_true rfl) (Nat.le_of_ble_eq_true rfl) dL_does_296 ⟨rfl, Or.inr (Or.inr (Or.inl ⟨hk, rfl, rfl⟩))⟩)
        obtain ⟨⟨hk, rfl⟩, ha_, hb_⟩ := hp
        rw [← ha_, hb_] at X
        refine lv_goto (tgt := 286) hx hb dL_does_37 (by decide) ?_
        exact vx_ret (k_iret Z X hr hlocks rfl (Nat.le_of_ble_eq_true rfl) (Nat.le_of_ble_eq_true rfl) dL_does_286 ⟨rfl, Or.inl ⟨hk, rfl, _, rfl, rfl⟩⟩)
    · exact absurd c_14 (by decide)
  · exact absurd c_1 (by decide)
set_option maxHeartbeats 4000000 in
set_option maxRecDepth 100000 in
theorem c_L_does_3 (l : Launch) (E : State) (G : kG) (S T : kSt) (o : Int64) (ad : kAd) (xc xb y2 y3 : Int32) (hE : kE l E G) (hS : okN S) (hL : okL S) : vx_Met l yL_does (.codeWith yL_does cL_does 7 (some .int) [(0, 286, 287, 70), (0, 286, 292, 73), (0, 286, 297, 76)] :: wsL_law) ({ frames := 16, cells := 20, slots := 400, locals := 460 } : Room) (va_Pc [.ref (ad 0 0), .int 3, .int xc, .int xb, .int y2, .int y3] (kPre E G ad (cto G S T o ad))) (kQi E G (fun r ad1 ct1 => kDP G S T o (ad = ad1) (cBudget S xc xb) (-3000000) (-2000000) (-1000000) (S.1 3 (cl xc) + xb) (fun S1 => S1 = oBudget S xc xb) r ad1 ct1)) (kXC E G (fun _ _ _ => False)) 20 400 (kB E.heap.size) := by
  refine vx_ofWH (cc := cL_does) (maxL := 7) (ret := (some .int)) (by decide) rfl ?_
  intro p e s m args below meth c s₁ B hml hv
  obtain ⟨rfl, hM, hK, hW0⟩ := hv
  have hlocks := B.notSynchronized
  have hr := B.returns
  have Z : kZ p m c cL_does 7 s _ wsL_law RL E G := ⟨⟨B.exec, B.bytes, hml, findClass_of_methodNamed B.named, fun w h => atoms_spec (ws := .codeWith yL_does cL_does 7 (some .int) [(0, 286, 287, 70), (0, 286, 292, 73), (0, 286, 297, 76)] :: wsL_law) B.pre w (List.mem_cons_of_mem _ h)⟩, hM, hK⟩
  have hx := Z.1.1
  have hb := Z.1.2.1
  have X := kX.of hW0
  have hl := lv_entry ([.ref (ad 0 0), .int 3, .int xc, .int xb, .int y2, .int y3]) (n := 7) (Nat.le_of_ble_eq_true rfl)
  rw [lg_entry_eq]
  generalize (lg_sl ([.ref (ad 0 0), .int 3, .int xc, .int xb, .int y2, .int y3]) ++ List.replicate (7 - (lg_sl ([.ref (ad 0 0), .int 3, .int xc, .int xb, .int y2, .int y3])).length) Slot.unset).toArray = ls at hl ⊢
  have hl : lv_has ls 7 [(0, .ref (ad 0 0)), (1, .int 3), (2, .int xc), (3, .int xb), (4, .int y2), (5, .int y3)] := hl
  have htab := vx_table (x := yL_does) B (atoms_spec (ws := .codeWith yL_does cL_does 7 (some .int) [(0, 286, 287, 70), (0, 286, 292, 73), (0, 286, 297, 76)] :: wsL_law) B.pre _ List.mem_cons_self)
  refine lv_iload_n hx hb dL_does_0 rfl (lv_at hl 1 rfl) ?_
  refine lv_if_ne (tgt := 12) hx hb dL_does_1 (by decide) (fun c_1 => ?_) (fun c_1 => ?_)
  · refine lv_iload_n hx hb dL_does_12 rfl (lv_at hl 1 rfl) ?_
    refine lv_iconst (v := 1) hx hb dL_does_13 (by decide) ?_
    refine lv_icmp_ne (tgt := 26) hx hb dL_does_14 (by decide) (fun c_14 => ?_) (fun c_14 => ?_)
    · refine lv_iload_n hx hb dL_does_26 rfl (lv_at hl 1 rfl) ?_
      refine lv_iconst (v := 2) hx hb dL_does_27 (by decide) ?_
      refine lv_icmp_ne (tgt := 40) hx hb dL_does_28 (by decide) (fun c_28 => ?_) (fun c_28 => ?_)
      · refine lv_iload_n hx hb dL_does_40 rfl (lv_at hl 1 rfl) ?_
        refine lv_iconst (v := 3) hx hb dL_does_41 (by decide) ?_
        refine lv_icmp_ne (tgt := 54) hx hb dL_does_42 (by decide) (fun c_42 => ?_) (fun c_42 => ?_)
        · exact absurd c_42 (by decide)
        · refine lv_aload_n hx hb dL_does_45 rfl (lv_at hl 0 rfl) ?_
          refine lv_iload_n hx hb dL_does_46 rfl (lv_at hl 2 rfl) ?_
          refine lv_iload_n hx hb dL_does_47 rfl (lv_at hl 3 rfl) ?_
          refine k_xRi X (k_xrunV (As := [.int xc, .int xb]) (rest := []) Z X (c_X7_budget l E G S T o ad xc xb hE hS hL) (k_cwV 2 Z.1.2.2.2.2 (inU_10 _ (List.mem_of_getElem? (i := 8) rfl)) (inU_10 _ (List.mem_of_getElem? (i := 9) rfl)) (inU_10 _ (List.mem_of_getElem? (i := 10) rfl)) (inU_1 _ (List.mem_of_getElem? (i := 2) rfl)) (inU_10 _ (List.mem_of_getElem? (i := 11) rfl)) rfl rfl (by decide +kernel) ⟨Nat.le_of_ble_eq_true rfl, Nat.le_of_ble_eq_true rfl⟩) (k_recv Z X ct_0 rfl) rfl hl.1 rfl (Nat.le_of_ble_eq_true rfl) dL_does_48 ⟨(Nat.le_of_ble_eq_true rfl), (Nat.le_of_ble_eq_true rfl)⟩) (fun x ce q9 ad1 ct1 H locs hp X x1 x2 x3 => ?_) (fun r_48 ad1 ct1 H locs hp X => ?_)
          · obtain ⟨hq, ha_, hb_⟩ := hp
            rw [← ha_, hb_] at X
            rcases hq with ⟨hk, rfl⟩ | ⟨hk, rfl⟩ | ⟨hk, rfl⟩
            · refine vx_catch (own := RL) (name := "java/lang/IndexOutOfBoundsException") (E := "java/lang/IndexOutOfBoundsException") Z.1.2.2.2.1 [] ⟨0, 286, 287, 70⟩ [⟨0, 286, 292, 73⟩, ⟨0, 286, 297, 76⟩] (htab.trans rfl) (fun z hz => nomatch hz) rfl (by decide) (Z.1.2.2.2.2 _ (inU_6 _ (List.mem_of_getElem? (i := 7) rfl))) (hE.word Z.2.1 (List.mem_of_getElem? (i := 2) rfl)) x1 x2 x3 ?_
              refine lv_astore (lv' := [(6, .ref q9), (0, .ref (ad 0 0)), (1, .int 3), (2, .int xc), (3, .int xb), (4, .int y2), (5, .int y3)]) hx hb dL_does_287 hl (by decide) rfl (fun ls hl => ?_)
              refine lv_ldc (v := (-3000000)) hx hb Z.1.2.2.2.1 (Z.1.2.2.2.2 _ (inU_1 _ (List.mem_of_getElem? (i := 5) rfl))) dL_does_289 ?_
              exact vx_ret (k_iret Z X hr hlocks rfl (Nat.le_of_ble_eq_true rfl) (Nat.le_of_ble_eq_true rfl) dL_does_291 ⟨rfl, Or.inr (Or.inl ⟨hk, rfl, rfl⟩)⟩)
            · refine vx_catch (own := RL) (name := "java/lang/IllegalArgumentException") (E := "java/lang/IllegalArgumentException") Z.1.2.2.2.1 [⟨0, 286, 287, 70⟩] ⟨0, 286, 292, 73⟩ [⟨0, 286, 297, 76⟩] (htab.trans rfl) (by intro z hz; simp only [List.mem_cons, List.not_mem_nil, or_false] at hz; rcases hz with rfl; exact Or.inr ⟨by decide, _, (Z.1.2.2.2.2 _ (inU_6 _ (List.mem_of_getElem? (i := 7) rfl))), hE.nc Z.2.1 (by decide)⟩) rfl (by decide) (hE.word Z.2.1 (List.mem_of_getElem? (i := 14) rfl)) (hE.word Z.2.1 (List.mem_of_getElem? (i := 0) rfl)) x1 x2 x3 ?_
              refine lv_astore (lv' := [(6, .ref q9), (0, .ref (ad 0 0)), (1, .int 3), (2, .int xc), (3, .int xb), (4, .int y2), (5, .int y3)]) hx hb dL_does_292 hl (by decide) rfl (fun ls hl => ?_)
              refine lv_ldc (v := (-2000000)) hx hb Z.1.2.2.2.1 (Z.1.2.2.2.2 _ (inU_1 _ (List.mem_of_getElem? (i := 4) rfl))) dL_does_294 ?_
              exact vx_ret (k_iret Z X hr hlocks rfl (Nat.le_of_ble_eq_true rfl) (Nat.le_of_ble_eq_true rfl) dL_does_296 ⟨rfl, Or.inr (Or.inr (Or.inl ⟨hk, rfl, rfl⟩))⟩)
            · refine vx_catch (own := RL) (name := "java/lang/IllegalStateException") (E := "java/lang/IllegalStateException") Z.1.2.2.2.1 [⟨0, 286, 287, 70⟩, ⟨0, 286, 292, 73⟩] ⟨0, 286, 297, 76⟩ [] (htab.trans rfl) (by intro z hz; simp only [List.mem_cons, List.not_mem_nil, or_false] at hz; rcases hz with rfl | rfl <;> first | exact Or.inr ⟨by decide, _, (Z.1.2.2.2.2 _ (inU_6 _ (List.mem_of_getElem? (i := 7) rfl))), hE.nc Z.2.1 (by decide)⟩ | exact Or.inr ⟨by decide, _, (hE.word Z.2.1 (List.mem_of_getElem? (i := 14) rfl)), hE.nc Z.2.1 (by decide)⟩) rfl (by decide) (hE.word Z.2.1 (List.mem_of_getElem? (i := 13) rfl)) (hE.word Z.2.1 (List.mem_of_getElem? (i := 1) rfl)) x1 x2 x3 ?_
              refine lv_astore (lv' := [(6, .ref q9), (0, .ref (ad 0 0)), (1, .int 3), (2, .int xc), (3, .int xb), (4, .int y2), (5, .int y3)]) hx hb dL_does_297 hl (by decide) rfl (fun ls hl => ?_)
              refine lv_ldc (v := (-1000000)) hx hb Z.1.2.2.2.1 (Z.1.2.2.2.2 _ (inU_1 _ (List.mem_of_getElem? (i := 8) rfl))) dL_does_299 ?_
              exact vx_ret (k_iret Z X hr hlocks rfl (Nat.le_of_ble_eq_true rfl) (Nat.le_of_ble_eq_true rfl) dL_does_301 ⟨rfl, Or.inr (Or.inr (Or.inr ⟨hk, rfl, rfl⟩))⟩)
          obtain ⟨⟨hk, rfl⟩, ha_, hb_⟩ := hp
          rw [← ha_, hb_] at X
          refine lv_goto (tgt := 286) hx hb dL_does_51 (by decide) ?_
          exact vx_ret (k_iret Z X hr hlocks rfl (Nat.le_of_ble_eq_true rfl) (Nat.le_of_ble_eq_true rfl) dL_does_286 ⟨rfl, Or.inl ⟨hk, rfl, _, rfl, rfl⟩⟩)
      · exact absurd c_28 (by decide)
    · exact absurd c_14 (by decide)
  · exact absurd c_1 (by decide)
set_option maxHeartbeats 4000000 in
set_option maxRecDepth 100000 in
theorem c_L_does_4 (l : Launch) (E : State) (G : kG) (S T : kSt) (o : Int64) (ad : kAd) (xu xc xp y3 : Int32) (hE : kE l E G) (hS : okN S) (hL : okL S) : vx_Met l yL_does (.codeWith yL_does cL_does 7 (some .int) [(0, 286, 287, 70), (0, 286, 292, 73), (0, 286, 297, 76)] :: wsL_law) ({ frames := 16, cells := 20, slots := 400, locals := 460 } : Room) (va_Pc [.ref (ad 0 0), .int 4, .int xu, .int xc, .int xp, .int y3] (kPre E G ad (cto G S T o ad))) (kQi E G (fun r ad1 ct1 => kDP G S T o (AK ad ad1) (cPost S xu xc xp) (-3000000) (-1000000) 0 (nI (S.2 0 1)) (fun S1 => ∃ cap : Nat, capok (S.2 0 1) cap ∧ S1 = gM S xu xc xp cap) r ad1 ct1)) (kXC E G (fun _ _ _ => False)) 20 400 (kB E.heap.size) := by
  refine vx_ofWH (cc := cL_does) (maxL := 7) (ret := (some .int)) (by decide) rfl ?_
  intro p e s m args below meth c s₁ B hml hv
  obtain ⟨rfl, hM, hK, hW0⟩ := hv
  have hlocks := B.notSynchronized
  have hr := B.returns
  have Z : kZ p m c cL_does 7 s _ wsL_law RL E G := ⟨⟨B.exec, B.bytes, hml, findClass_of_methodNamed B.named, fun w h => atoms_spec (ws := .codeWith yL_does cL_does 7 (some .int) [(0, 286, 287, 70), (0, 286, 292, 73), (0, 286, 297, 76)] :: wsL_law) B.pre w (List.mem_cons_of_mem _ h)⟩, hM, hK⟩
  have hx := Z.1.1
  have hb := Z.1.2.1
  have X := kX.of hW0
  have hl := lv_entry ([.ref (ad 0 0), .int 4, .int xu, .int xc, .int xp, .int y3]) (n := 7) (Nat.le_of_ble_eq_true rfl)
  rw [lg_entry_eq]
  generalize (lg_sl ([.ref (ad 0 0), .int 4, .int xu, .int xc, .int xp, .int y3]) ++ List.replicate (7 - (lg_sl ([.ref (ad 0 0), .int 4, .int xu, .int xc, .int xp, .int y3])).length) Slot.unset).toArray = ls at hl ⊢
  have hl : lv_has ls 7 [(0, .ref (ad 0 0)), (1, .int 4), (2, .int xu), (3, .int xc), (4, .int xp), (5, .int y3)] := hl
  have htab := vx_table (x := yL_does) B (atoms_spec (ws := .codeWith yL_does cL_does 7 (some .int) [(0, 286, 287, 70), (0, 286, 292, 73), (0, 286, 297, 76)] :: wsL_law) B.pre _ List.mem_cons_self)
  refine lv_iload_n hx hb dL_does_0 rfl (lv_at hl 1 rfl) ?_
  refine lv_if_ne (tgt := 12) hx hb dL_does_1 (by decide) (fun c_1 => ?_) (fun c_1 => ?_)
  · refine lv_iload_n hx hb dL_does_12 rfl (lv_at hl 1 rfl) ?_
    refine lv_iconst (v := 1) hx hb dL_does_13 (by decide) ?_
    refine lv_icmp_ne (tgt := 26) hx hb dL_does_14 (by decide) (fun c_14 => ?_) (fun c_14 => ?_)
    · refine lv_iload_n hx hb dL_does_26 rfl (lv_at hl 1 rfl) ?_
      refine lv_iconst (v := 2) hx hb dL_does_27 (by decide) ?_
      refine lv_icmp_ne (tgt := 40) hx hb dL_does_28 (by decide) (fun c_28 => ?_) (fun c_28 => ?_)
      · refine lv_iload_n hx hb dL_does_40 rfl (lv_at hl 1 rfl) ?_
        refine lv_iconst (v := 3) hx hb dL_does_41 (by decide) ?_
        refine lv_icmp_ne (tgt := 54) hx hb dL_does_42 (by decide) (fun c_42 => ?_) (fun c_42 => ?_)
        · refine lv_iload_n hx hb dL_does_54 rfl (lv_at hl 1 rfl) ?_
          refine lv_iconst (v := 4) hx hb dL_does_55 (by decide) ?_
          refine lv_icmp_ne (tgt := 70) hx hb dL_does_56 (by decide) (fun c_56 => ?_) (fun c_56 => ?_)
          · exact absurd c_56 (by decide)
          · refine lv_aload_n hx hb dL_does_59 rfl (lv_at hl 0 rfl) ?_
            refine lv_iload_n hx hb dL_does_60 rfl (lv_at hl 2 rfl) ?_
            refine lv_iload_n hx hb dL_does_61 rfl (lv_at hl 3 rfl) ?_
            refine lv_iload hx hb dL_does_62 (lv_at hl 4 rfl) ?_
            refine k_xRi X (k_xrunV (As := [.int xu, .int xc, .int xp]) (rest := []) Z X (c_X7_post l E G S T o ad xu xc xp hE hS hL) (k_cwV 3 Z.1.2.2.2.2 (inU_10 _ (List.mem_of_getElem? (i := 19) rfl)) (inU_10 _ (List.mem_of_getElem? (i := 20) rfl)) (inU_10 _ (List.mem_of_getElem? (i := 21) rfl)) (inU_1 _ (List.mem_of_getElem? (i := 2) rfl)) (inU_10 _ (List.mem_of_getElem? (i := 22) rfl)) rfl rfl (by decide +kernel) ⟨Nat.le_of_ble_eq_true rfl, Nat.le_of_ble_eq_true rfl⟩) (k_recv Z X ct_0 rfl) rfl hl.1 rfl (Nat.le_of_ble_eq_true rfl) dL_does_64 ⟨(Nat.le_of_ble_eq_true rfl), (Nat.le_of_ble_eq_true rfl)⟩) (fun x ce q9 ad1 ct1 H locs hp X x1 x2 x3 => ?_) (fun r_64 ad1 ct1 H locs hp X => ?_)
            · obtain ⟨hq, ha_, hb_⟩ := hp
              rw [← ha_, hb_] at X
              rcases hq with ⟨hk, rfl⟩ | ⟨hk, rfl⟩
              · refine vx_catch (own := RL) (name := "java/lang/IndexOutOfBoundsException") (E := "java/lang/IndexOutOfBoundsException") Z.1.2.2.2.1 [] ⟨0, 286, 287, 70⟩ [⟨0, 286, 292, 73⟩, ⟨0, 286, 297, 76⟩] (htab.trans rfl) (fun z hz => nomatch hz) rfl (by decide) (Z.1.2.2.2.2 _ (inU_6 _ (List.mem_of_getElem? (i := 7) rfl))) (hE.word Z.2.1 (List.mem_of_getElem? (i := 2) rfl)) x1 x2 x3 ?_
                refine lv_astore (lv' := [(6, .ref q9), (0, .ref (ad 0 0)), (1, .int 4), (2, .int xu), (3, .int xc), (4, .int xp), (5, .int y3)]) hx hb dL_does_287 hl (by decide) rfl (fun ls hl => ?_)
                refine lv_ldc (v := (-3000000)) hx hb Z.1.2.2.2.1 (Z.1.2.2.2.2 _ (inU_1 _ (List.mem_of_getElem? (i := 5) rfl))) dL_does_289 ?_
                exact vx_ret (k_iret Z X hr hlocks rfl (Nat.le_of_ble_eq_true rfl) (Nat.le_of_ble_eq_true rfl) dL_does_291 ⟨AK.rf, Or.inr (Or.inl ⟨hk, rfl, rfl⟩)⟩)
              · refine vx_catch (own := RL) (name := "java/lang/IllegalStateException") (E := "java/lang/IllegalStateException") Z.1.2.2.2.1 [⟨0, 286, 287, 70⟩, ⟨0, 286, 292, 73⟩] ⟨0, 286, 297, 76⟩ [] (htab.trans rfl) (by intro z hz; simp only [List.mem_cons, List.not_mem_nil, or_false] at hz; rcases hz with rfl | rfl <;> first | exact Or.inr ⟨by decide, _, (Z.1.2.2.2.2 _ (inU_6 _ (List.mem_of_getElem? (i := 7) rfl))), hE.nc Z.2.1 (by decide)⟩ | exact Or.inr ⟨by decide, _, (hE.word Z.2.1 (List.mem_of_getElem? (i := 14) rfl)), hE.nc Z.2.1 (by decide)⟩) rfl (by decide) (hE.word Z.2.1 (List.mem_of_getElem? (i := 13) rfl)) (hE.word Z.2.1 (List.mem_of_getElem? (i := 1) rfl)) x1 x2 x3 ?_
                refine lv_astore (lv' := [(6, .ref q9), (0, .ref (ad 0 0)), (1, .int 4), (2, .int xu), (3, .int xc), (4, .int xp), (5, .int y3)]) hx hb dL_does_297 hl (by decide) rfl (fun ls hl => ?_)
                refine lv_ldc (v := (-1000000)) hx hb Z.1.2.2.2.1 (Z.1.2.2.2.2 _ (inU_1 _ (List.mem_of_getElem? (i := 8) rfl))) dL_does_299 ?_
                exact vx_ret (k_iret Z X hr hlocks rfl (Nat.le_of_ble_eq_true rfl) (Nat.le_of_ble_eq_true rfl) dL_does_301 ⟨AK.rf, Or.inr (Or.inr (Or.inl ⟨hk, rfl, rfl⟩))⟩)
            obtain ⟨⟨hk, rfl⟩, hAK, cap, hcap, hb_⟩ := hp
            rw [hb_] at X
            refine lv_goto (tgt := 286) hx hb dL_does_67 (by decide) ?_
            exact vx_ret (k_iret Z X hr hlocks rfl (Nat.le_of_ble_eq_true rfl) (Nat.le_of_ble_eq_true rfl) dL_does_286 ⟨hAK, Or.inl ⟨hk, rfl, _, ⟨cap, hcap, rfl⟩, rfl⟩⟩)
        · exact absurd c_42 (by decide)
      · exact absurd c_28 (by decide)
    · exact absurd c_14 (by decide)
  · exact absurd c_1 (by decide)
set_option maxHeartbeats 4000000 in
set_option maxRecDepth 100000 in
theorem c_L_does_5 (l : Launch) (E : State) (G : kG) (S T : kSt) (o : Int64) (ad : kAd) (xu xm y2 y3 : Int32) (hE : kE l E G) (hS : okN S) (hL : okL S) (hK9 : okK S) (hlog : S.2 0 4 < 512) : vx_Met l yL_does (.codeWith yL_does cL_does 7 (some .int) [(0, 286, 287, 70), (0, 286, 292, 73), (0, 286, 297, 76)] :: wsL_law) ({ frames := 16, cells := 20, slots := 400, locals := 460 } : Room) (va_Pc [.ref (ad 0 0), .int 5, .int xu, .int xm, .int y2, .int y3] (kPre E G ad (cto G S T o ad))) (kQi E G (fun r ad1 ct1 => kDP G S T o (ad = ad1) (cEdit S xu xm) (-3000000) (-1000000) 0 (S.1 7 (cl xm) + 1) (fun S1 => S1 = oEditC S xm) r ad1 ct1)) (kXC E G (fun _ _ _ => False)) 20 400 (kB E.heap.size) := by
  refine vx_ofWH (cc := cL_does) (maxL := 7) (ret := (some .int)) (by decide) rfl ?_
  intro p e s m args below meth c s₁ B hml hv
  obtain ⟨rfl, hM, hK, hW0⟩ := hv
  have hlocks := B.notSynchronized
  have hr := B.returns
  have Z : kZ p m c cL_does 7 s _ wsL_law RL E G := ⟨⟨B.exec, B.bytes, hml, findClass_of_methodNamed B.named, fun w h => atoms_spec (ws := .codeWith yL_does cL_does 7 (some .int) [(0, 286, 287, 70), (0, 286, 292, 73), (0, 286, 297, 76)] :: wsL_law) B.pre w (List.mem_cons_of_mem _ h)⟩, hM, hK⟩
  have hx := Z.1.1
  have hb := Z.1.2.1
  have X := kX.of hW0
  have hl := lv_entry ([.ref (ad 0 0), .int 5, .int xu, .int xm, .int y2, .int y3]) (n := 7) (Nat.le_of_ble_eq_true rfl)
  rw [lg_entry_eq]
  generalize (lg_sl ([.ref (ad 0 0), .int 5, .int xu, .int xm, .int y2, .int y3]) ++ List.replicate (7 - (lg_sl ([.ref (ad 0 0), .int 5, .int xu, .int xm, .int y2, .int y3])).length) Slot.unset).toArray = ls at hl ⊢
  have hl : lv_has ls 7 [(0, .ref (ad 0 0)), (1, .int 5), (2, .int xu), (3, .int xm), (4, .int y2), (5, .int y3)] := hl
  have htab := vx_table (x := yL_does) B (atoms_spec (ws := .codeWith yL_does cL_does 7 (some .int) [(0, 286, 287, 70), (0, 286, 292, 73), (0, 286, 297, 76)] :: wsL_law) B.pre _ List.mem_cons_self)
  refine lv_iload_n hx hb dL_does_0 rfl (lv_at hl 1 rfl) ?_
  refine lv_if_ne (tgt := 12) hx hb dL_does_1 (by decide) (fun c_1 => ?_) (fun c_1 => ?_)
  · refine lv_iload_n hx hb dL_does_12 rfl (lv_at hl 1 rfl) ?_
    refine lv_iconst (v := 1) hx hb dL_does_13 (by decide) ?_
    refine lv_icmp_ne (tgt := 26) hx hb dL_does_14 (by decide) (fun c_14 => ?_) (fun c_14 => ?_)
    · refine lv_iload_n hx hb dL_does_26 rfl (lv_at hl 1 rfl) ?_
      refine lv_iconst (v := 2) hx hb dL_does_27 (by decide) ?_
      refine lv_icmp_ne (tgt := 40) hx hb dL_does_28 (by decide) (fun c_28 => ?_) (fun c_28 => ?_)
      · refine lv_iload_n hx hb dL_does_40 rfl (lv_at hl 1 rfl) ?_
        refine lv_iconst (v := 3) hx hb dL_does_41 (by decide) ?_
        refine lv_icmp_ne (tgt := 54) hx hb dL_does_42 (by decide) (fun c_42 => ?_) (fun c_42 => ?_)
        · refine lv_iload_n hx hb dL_does_54 rfl (lv_at hl 1 rfl) ?_
          refine lv_iconst (v := 4) hx hb dL_does_55 (by decide) ?_
          refine lv_icmp_ne (tgt := 70) hx hb dL_does_56 (by decide) (fun c_56 => ?_) (fun c_56 => ?_)
          · refine lv_iload_n hx hb dL_does_70 rfl (lv_at hl 1 rfl) ?_
            refine lv_iconst (v := 5) hx hb dL_does_71 (by decide) ?_
            refine lv_icmp_ne (tgt := 84) hx hb dL_does_72 (by decide) (fun c_72 => ?_) (fun c_72 => ?_)
            · exact absurd c_72 (by decide)
            · refine lv_aload_n hx hb dL_does_75 rfl (lv_at hl 0 rfl) ?_
              refine lv_iload_n hx hb dL_does_76 rfl (lv_at hl 2 rfl) ?_
              refine lv_iload_n hx hb dL_does_77 rfl (lv_at hl 3 rfl) ?_
              refine k_xRi X (k_xrunV (As := [.int xu, .int xm]) (rest := []) Z X (c_X7_edit l E G S T o ad xu xm hE hS hL hK9 hlog) (k_cwV 2 Z.1.2.2.2.2 (inU_12 _ (List.mem_of_getElem? (i := 6) rfl)) (inU_12 _ (List.mem_of_getElem? (i := 7) rfl)) (inU_12 _ (List.mem_of_getElem? (i := 8) rfl)) (inU_1 _ (List.mem_of_getElem? (i := 2) rfl)) (inU_12 _ (List.mem_of_getElem? (i := 9) rfl)) rfl rfl (by decide +kernel) ⟨Nat.le_of_ble_eq_true rfl, Nat.le_of_ble_eq_true rfl⟩) (k_recv Z X ct_0 rfl) rfl hl.1 rfl (Nat.le_of_ble_eq_true rfl) dL_does_78 ⟨(Nat.le_of_ble_eq_true rfl), (Nat.le_of_ble_eq_true rfl)⟩) (fun x ce q9 ad1 ct1 H locs hp X x1 x2 x3 => ?_) (fun r_78 ad1 ct1 H locs hp X => ?_)
              · obtain ⟨hq, ha_, hb_⟩ := hp
                rw [← ha_, hb_] at X
                rcases hq with ⟨hk, rfl⟩ | ⟨hk, rfl⟩
                · refine vx_catch (own := RL) (name := "java/lang/IndexOutOfBoundsException") (E := "java/lang/IndexOutOfBoundsException") Z.1.2.2.2.1 [] ⟨0, 286, 287, 70⟩ [⟨0, 286, 292, 73⟩, ⟨0, 286, 297, 76⟩] (htab.trans rfl) (fun z hz => nomatch hz) rfl (by decide) (Z.1.2.2.2.2 _ (inU_6 _ (List.mem_of_getElem? (i := 7) rfl))) (hE.word Z.2.1 (List.mem_of_getElem? (i := 2) rfl)) x1 x2 x3 ?_
                  refine lv_astore (lv' := [(6, .ref q9), (0, .ref (ad 0 0)), (1, .int 5), (2, .int xu), (3, .int xm), (4, .int y2), (5, .int y3)]) hx hb dL_does_287 hl (by decide) rfl (fun ls hl => ?_)
                  refine lv_ldc (v := (-3000000)) hx hb Z.1.2.2.2.1 (Z.1.2.2.2.2 _ (inU_1 _ (List.mem_of_getElem? (i := 5) rfl))) dL_does_289 ?_
                  exact vx_ret (k_iret Z X hr hlocks rfl (Nat.le_of_ble_eq_true rfl) (Nat.le_of_ble_eq_true rfl) dL_does_291 ⟨rfl, Or.inr (Or.inl ⟨hk, rfl, rfl⟩)⟩)
                · refine vx_catch (own := RL) (name := "java/lang/IllegalStateException") (E := "java/lang/IllegalStateException") Z.1.2.2.2.1 [⟨0, 286, 287, 70⟩, ⟨0, 286, 292, 73⟩] ⟨0, 286, 297, 76⟩ [] (htab.trans rfl) (by intro z hz; simp only [List.mem_cons, List.not_mem_nil, or_false] at hz; rcases hz with rfl | rfl <;> first | exact Or.inr ⟨by decide, _, (Z.1.2.2.2.2 _ (inU_6 _ (List.mem_of_getElem? (i := 7) rfl))), hE.nc Z.2.1 (by decide)⟩ | exact Or.inr ⟨by decide, _, (hE.word Z.2.1 (List.mem_of_getElem? (i := 14) rfl)), hE.nc Z.2.1 (by decide)⟩) rfl (by decide) (hE.word Z.2.1 (List.mem_of_getElem? (i := 13) rfl)) (hE.word Z.2.1 (List.mem_of_getElem? (i := 1) rfl)) x1 x2 x3 ?_
                  refine lv_astore (lv' := [(6, .ref q9), (0, .ref (ad 0 0)), (1, .int 5), (2, .int xu), (3, .int xm), (4, .int y2), (5, .int y3)]) hx hb dL_does_297 hl (by decide) rfl (fun ls hl => ?_)
                  refine lv_ldc (v := (-1000000)) hx hb Z.1.2.2.2.1 (Z.1.2.2.2.2 _ (inU_1 _ (List.mem_of_getElem? (i := 8) rfl))) dL_does_299 ?_
                  exact vx_ret (k_iret Z X hr hlocks rfl (Nat.le_of_ble_eq_true rfl) (Nat.le_of_ble_eq_true rfl) dL_does_301 ⟨rfl, Or.inr (Or.inr (Or.inl ⟨hk, rfl, rfl⟩))⟩)
              obtain ⟨⟨hk, rfl⟩, ha_, hb_⟩ := hp
              rw [← ha_, hb_] at X
              refine lv_goto (tgt := 286) hx hb dL_does_81 (by decide) ?_
              exact vx_ret (k_iret Z X hr hlocks rfl (Nat.le_of_ble_eq_true rfl) (Nat.le_of_ble_eq_true rfl) dL_does_286 ⟨rfl, Or.inl ⟨hk, rfl, _, rfl, rfl⟩⟩)
          · exact absurd c_56 (by decide)
        · exact absurd c_42 (by decide)
      · exact absurd c_28 (by decide)
    · exact absurd c_14 (by decide)
  · exact absurd c_1 (by decide)
set_option maxHeartbeats 4000000 in
set_option maxRecDepth 100000 in
theorem c_L_does_6 (l : Launch) (E : State) (G : kG) (S T : kSt) (o : Int64) (ad : kAd) (xu xm xk y3 : Int32) (hE : kE l E G) (hS : okN S) (hL : okL S) (hK9 : okK S) (hlog : S.2 0 4 < 512) : vx_Met l yL_does (.codeWith yL_does cL_does 7 (some .int) [(0, 286, 287, 70), (0, 286, 292, 73), (0, 286, 297, 76)] :: wsL_law) ({ frames := 16, cells := 20, slots := 400, locals := 460 } : Room) (va_Pc [.ref (ad 0 0), .int 6, .int xu, .int xm, .int xk, .int y3] (kPre E G ad (cto G S T o ad))) (kQi E G (fun r ad1 ct1 => kDP G S T o (ad = ad1) (cMark S (kdS S) xu xm xk) (-3000000) (-2000000) (-1000000) (nI (cntN (oMarkC S xu xm xk) (kdS (oMarkC S xu xm xk) (cl xm)) (S.2 0 0))) (fun S1 => S1 = oMarkC S xu xm xk) r ad1 ct1)) (kXC E G (fun _ _ _ => False)) 20 400 (kB E.heap.size) := by
  refine vx_ofWH (cc := cL_does) (maxL := 7) (ret := (some .int)) (by decide) rfl ?_
  intro p e s m args below meth c s₁ B hml hv
  obtain ⟨rfl, hM, hK, hW0⟩ := hv
  have hlocks := B.notSynchronized
  have hr := B.returns
  have Z : kZ p m c cL_does 7 s _ wsL_law RL E G := ⟨⟨B.exec, B.bytes, hml, findClass_of_methodNamed B.named, fun w h => atoms_spec (ws := .codeWith yL_does cL_does 7 (some .int) [(0, 286, 287, 70), (0, 286, 292, 73), (0, 286, 297, 76)] :: wsL_law) B.pre w (List.mem_cons_of_mem _ h)⟩, hM, hK⟩
  have hx := Z.1.1
  have hb := Z.1.2.1
  have X := kX.of hW0
  have hl := lv_entry ([.ref (ad 0 0), .int 6, .int xu, .int xm, .int xk, .int y3]) (n := 7) (Nat.le_of_ble_eq_true rfl)
  rw [lg_entry_eq]
  generalize (lg_sl ([.ref (ad 0 0), .int 6, .int xu, .int xm, .int xk, .int y3]) ++ List.replicate (7 - (lg_sl ([.ref (ad 0 0), .int 6, .int xu, .int xm, .int xk, .int y3])).length) Slot.unset).toArray = ls at hl ⊢
  have hl : lv_has ls 7 [(0, .ref (ad 0 0)), (1, .int 6), (2, .int xu), (3, .int xm), (4, .int xk), (5, .int y3)] := hl
  have htab := vx_table (x := yL_does) B (atoms_spec (ws := .codeWith yL_does cL_does 7 (some .int) [(0, 286, 287, 70), (0, 286, 292, 73), (0, 286, 297, 76)] :: wsL_law) B.pre _ List.mem_cons_self)
  refine lv_iload_n hx hb dL_does_0 rfl (lv_at hl 1 rfl) ?_
  refine lv_if_ne (tgt := 12) hx hb dL_does_1 (by decide) (fun c_1 => ?_) (fun c_1 => ?_)
  · refine lv_iload_n hx hb dL_does_12 rfl (lv_at hl 1 rfl) ?_
    refine lv_iconst (v := 1) hx hb dL_does_13 (by decide) ?_
    refine lv_icmp_ne (tgt := 26) hx hb dL_does_14 (by decide) (fun c_14 => ?_) (fun c_14 => ?_)
    · refine lv_iload_n hx hb dL_does_26 rfl (lv_at hl 1 rfl) ?_
      refine lv_iconst (v := 2) hx hb dL_does_27 (by decide) ?_
      refine lv_icmp_ne (tgt := 40) hx hb dL_does_28 (by decide) (fun c_28 => ?_) (fun c_28 => ?_)
      · refine lv_iload_n hx hb dL_does_40 rfl (lv_at hl 1 rfl) ?_
        refine lv_iconst (v := 3) hx hb dL_does_41 (by decide) ?_
        refine lv_icmp_ne (tgt := 54) hx hb dL_does_42 (by decide) (fun c_42 => ?_) (fun c_42 => ?_)
        · refine lv_iload_n hx hb dL_does_54 rfl (lv_at hl 1 rfl) ?_
          refine lv_iconst (v := 4) hx hb dL_does_55 (by decide) ?_
          refine lv_icmp_ne (tgt := 70) hx hb dL_does_56 (by decide) (fun c_56 => ?_) (fun c_56 => ?_)
          · refine lv_iload_n hx hb dL_does_70 rfl (lv_at hl 1 rfl) ?_
            refine lv_iconst (v := 5) hx hb dL_does_71 (by decide) ?_
            refine lv_icmp_ne (tgt := 84) hx hb dL_does_72 (by decide) (fun c_72 => ?_) (fun c_72 => ?_)
            · refine lv_iload_n hx hb dL_does_84 rfl (lv_at hl 1 rfl) ?_
              refine lv_bipush (v := 6) hx hb dL_does_85 (by decide) ?_
              refine lv_icmp_ne (tgt := 101) hx hb dL_does_87 (by decide) (fun c_87 => ?_) (fun c_87 => ?_)
              · exact absurd c_87 (by decide)
              · refine lv_aload_n hx hb dL_does_90 rfl (lv_at hl 0 rfl) ?_
                refine lv_iload_n hx hb dL_does_91 rfl (lv_at hl 2 rfl) ?_
                refine lv_iload_n hx hb dL_does_92 rfl (lv_at hl 3 rfl) ?_
                refine lv_iload hx hb dL_does_93 (lv_at hl 4 rfl) ?_
                refine k_xRi X (k_xrunV (As := [.int xu, .int xm, .int xk]) (rest := []) Z X (c_X7_mark l E G S T o ad xu xm xk hE hS hL hK9 hlog) (k_cwV 3 Z.1.2.2.2.2 (inU_13 _ (List.mem_of_getElem? (i := 7) rfl)) (inU_13 _ (List.mem_of_getElem? (i := 8) rfl)) (inU_13 _ (List.mem_of_getElem? (i := 9) rfl)) (inU_1 _ (List.mem_of_getElem? (i := 2) rfl)) (inU_13 _ (List.mem_of_getElem? (i := 10) rfl)) rfl rfl (by decide +kernel) ⟨Nat.le_of_ble_eq_true rfl, Nat.le_of_ble_eq_true rfl⟩) (k_recv Z X ct_0 rfl) rfl hl.1 rfl (Nat.le_of_ble_eq_true rfl) dL_does_95 ⟨(Nat.le_of_ble_eq_true rfl), (Nat.le_of_ble_eq_true rfl)⟩) (fun x ce q9 ad1 ct1 H locs hp X x1 x2 x3 => ?_) (fun r_95 ad1 ct1 H locs hp X => ?_)
                · obtain ⟨hq, ha_, hb_⟩ := hp
                  rw [← ha_, hb_] at X
                  rcases hq with ⟨hk, rfl⟩ | ⟨hk, rfl⟩ | ⟨hk, rfl⟩
                  · refine vx_catch (own := RL) (name := "java/lang/IndexOutOfBoundsException") (E := "java/lang/IndexOutOfBoundsException") Z.1.2.2.2.1 [] ⟨0, 286, 287, 70⟩ [⟨0, 286, 292, 73⟩, ⟨0, 286, 297, 76⟩] (htab.trans rfl) (fun z hz => nomatch hz) rfl (by decide) (Z.1.2.2.2.2 _ (inU_6 _ (List.mem_of_getElem? (i := 7) rfl))) (hE.word Z.2.1 (List.mem_of_getElem? (i := 2) rfl)) x1 x2 x3 ?_
                    refine lv_astore (lv' := [(6, .ref q9), (0, .ref (ad 0 0)), (1, .int 6), (2, .int xu), (3, .int xm), (4, .int xk), (5, .int y3)]) hx hb dL_does_287 hl (by decide) rfl (fun ls hl => ?_)
                    refine lv_ldc (v := (-3000000)) hx hb Z.1.2.2.2.1 (Z.1.2.2.2.2 _ (inU_1 _ (List.mem_of_getElem? (i := 5) rfl))) dL_does_289 ?_
                    exact vx_ret (k_iret Z X hr hlocks rfl (Nat.le_of_ble_eq_true rfl) (Nat.le_of_ble_eq_true rfl) dL_does_291 ⟨rfl, Or.inr (Or.inl ⟨hk, rfl, rfl⟩)⟩)
                  · refine vx_catch (own := RL) (name := "java/lang/IllegalArgumentException") (E := "java/lang/IllegalArgumentException") Z.1.2.2.2.1 [⟨0, 286, 287, 70⟩] ⟨0, 286, 292, 73⟩ [⟨0, 286, 297, 76⟩] (htab.trans rfl) (by intro z hz; simp only [List.mem_cons, List.not_mem_nil, or_false] at hz; rcases hz with rfl; exact Or.inr ⟨by decide, _, (Z.1.2.2.2.2 _ (inU_6 _ (List.mem_of_getElem? (i := 7) rfl))), hE.nc Z.2.1 (by decide)⟩) rfl (by decide) (hE.word Z.2.1 (List.mem_of_getElem? (i := 14) rfl)) (hE.word Z.2.1 (List.mem_of_getElem? (i := 0) rfl)) x1 x2 x3 ?_
                    refine lv_astore (lv' := [(6, .ref q9), (0, .ref (ad 0 0)), (1, .int 6), (2, .int xu), (3, .int xm), (4, .int xk), (5, .int y3)]) hx hb dL_does_292 hl (by decide) rfl (fun ls hl => ?_)
                    refine lv_ldc (v := (-2000000)) hx hb Z.1.2.2.2.1 (Z.1.2.2.2.2 _ (inU_1 _ (List.mem_of_getElem? (i := 4) rfl))) dL_does_294 ?_
                    exact vx_ret (k_iret Z X hr hlocks rfl (Nat.le_of_ble_eq_true rfl) (Nat.le_of_ble_eq_true rfl) dL_does_296 ⟨rfl, Or.inr (Or.inr (Or.inl ⟨hk, rfl, rfl⟩))⟩)
                  · refine vx_catch (own := RL) (name := "java/lang/IllegalStateException") (E := "java/lang/IllegalStateException") Z.1.2.2.2.1 [⟨0, 286, 287, 70⟩, ⟨0, 286, 292, 73⟩] ⟨0, 286, 297, 76⟩ [] (htab.trans rfl) (by intro z hz; simp only [List.mem_cons, List.not_mem_nil, or_false] at hz; rcases hz with rfl | rfl <;> first | exact Or.inr ⟨by decide, _, (Z.1.2.2.2.2 _ (inU_6 _ (List.mem_of_getElem? (i := 7) rfl))), hE.nc Z.2.1 (by decide)⟩ | exact Or.inr ⟨by decide, _, (hE.word Z.2.1 (List.mem_of_getElem? (i := 14) rfl)), hE.nc Z.2.1 (by decide)⟩) rfl (by decide) (hE.word Z.2.1 (List.mem_of_getElem? (i := 13) rfl)) (hE.word Z.2.1 (List.mem_of_getElem? (i := 1) rfl)) x1 x2 x3 ?_
                    refine lv_astore (lv' := [(6, .ref q9), (0, .ref (ad 0 0)), (1, .int 6), (2, .int xu), (3, .int xm), (4, .int xk), (5, .int y3)]) hx hb dL_does_297 hl (by decide) rfl (fun ls hl => ?_)
                    refine lv_ldc (v := (-1000000)) hx hb Z.1.2.2.2.1 (Z.1.2.2.2.2 _ (inU_1 _ (List.mem_of_getElem? (i := 8) rfl))) dL_does_299 ?_
                    exact vx_ret (k_iret Z X hr hlocks rfl (Nat.le_of_ble_eq_true rfl) (Nat.le_of_ble_eq_true rfl) dL_does_301 ⟨rfl, Or.inr (Or.inr (Or.inr ⟨hk, rfl, rfl⟩))⟩)
                obtain ⟨⟨hk, rfl⟩, ha_, hb_⟩ := hp
                rw [← ha_, hb_] at X
                refine lv_goto (tgt := 286) hx hb dL_does_98 (by decide) ?_
                exact vx_ret (k_iret Z X hr hlocks rfl (Nat.le_of_ble_eq_true rfl) (Nat.le_of_ble_eq_true rfl) dL_does_286 ⟨rfl, Or.inl ⟨hk, rfl, _, rfl, rfl⟩⟩)
            · exact absurd c_72 (by decide)
          · exact absurd c_56 (by decide)
        · exact absurd c_42 (by decide)
      · exact absurd c_28 (by decide)
    · exact absurd c_14 (by decide)
  · exact absurd c_1 (by decide)
set_option maxHeartbeats 4000000 in
set_option maxRecDepth 100000 in
theorem c_L_does_7 (l : Launch) (E : State) (G : kG) (S T : kSt) (o : Int64) (ad : kAd) (xu xm xa y3 : Int32) (hE : kE l E G) (hS : okN S) (hL : okL S) (hK9 : okK S) : vx_Met l yL_does (.codeWith yL_does cL_does 7 (some .int) [(0, 286, 287, 70), (0, 286, 292, 73), (0, 286, 297, 76)] :: wsL_law) ({ frames := 16, cells := 20, slots := 400, locals := 460 } : Room) (va_Pc [.ref (ad 0 0), .int 7, .int xu, .int xm, .int xa, .int y3] (kPre E G ad (cto G S T o ad))) (kQi E G (fun r ad1 ct1 => kDP G S T o (AK ad ad1) (cSpend S (kdS S) xu xm xa) (-3000000) (-2000000) (-1000000) (nI (S.2 0 2)) (fun S1 => ∃ cap : Nat, capok (S.2 0 2) cap ∧ S1 = gS S xm xa cap) r ad1 ct1)) (kXC E G (fun _ _ _ => False)) 20 400 (kB E.heap.size) := by
  refine vx_ofWH (cc := cL_does) (maxL := 7) (ret := (some .int)) (by decide) rfl ?_
  intro p e s m args below meth c s₁ B hml hv
  obtain ⟨rfl, hM, hK, hW0⟩ := hv
  have hlocks := B.notSynchronized
  have hr := B.returns
  have Z : kZ p m c cL_does 7 s _ wsL_law RL E G := ⟨⟨B.exec, B.bytes, hml, findClass_of_methodNamed B.named, fun w h => atoms_spec (ws := .codeWith yL_does cL_does 7 (some .int) [(0, 286, 287, 70), (0, 286, 292, 73), (0, 286, 297, 76)] :: wsL_law) B.pre w (List.mem_cons_of_mem _ h)⟩, hM, hK⟩
  have hx := Z.1.1
  have hb := Z.1.2.1
  have X := kX.of hW0
  have hl := lv_entry ([.ref (ad 0 0), .int 7, .int xu, .int xm, .int xa, .int y3]) (n := 7) (Nat.le_of_ble_eq_true rfl)
  rw [lg_entry_eq]
  generalize (lg_sl ([.ref (ad 0 0), .int 7, .int xu, .int xm, .int xa, .int y3]) ++ List.replicate (7 - (lg_sl ([.ref (ad 0 0), .int 7, .int xu, .int xm, .int xa, .int y3])).length) Slot.unset).toArray = ls at hl ⊢
  have hl : lv_has ls 7 [(0, .ref (ad 0 0)), (1, .int 7), (2, .int xu), (3, .int xm), (4, .int xa), (5, .int y3)] := hl
  have htab := vx_table (x := yL_does) B (atoms_spec (ws := .codeWith yL_does cL_does 7 (some .int) [(0, 286, 287, 70), (0, 286, 292, 73), (0, 286, 297, 76)] :: wsL_law) B.pre _ List.mem_cons_self)
  refine lv_iload_n hx hb dL_does_0 rfl (lv_at hl 1 rfl) ?_
  refine lv_if_ne (tgt := 12) hx hb dL_does_1 (by decide) (fun c_1 => ?_) (fun c_1 => ?_)
  · refine lv_iload_n hx hb dL_does_12 rfl (lv_at hl 1 rfl) ?_
    refine lv_iconst (v := 1) hx hb dL_does_13 (by decide) ?_
    refine lv_icmp_ne (tgt := 26) hx hb dL_does_14 (by decide) (fun c_14 => ?_) (fun c_14 => ?_)
    · refine lv_iload_n hx hb dL_does_26 rfl (lv_at hl 1 rfl) ?_
      refine lv_iconst (v := 2) hx hb dL_does_27 (by decide) ?_
      refine lv_icmp_ne (tgt := 40) hx hb dL_does_28 (by decide) (fun c_28 => ?_) (fun c_28 => ?_)
      · refine lv_iload_n hx hb dL_does_40 rfl (lv_at hl 1 rfl) ?_
        refine lv_iconst (v := 3) hx hb dL_does_41 (by decide) ?_
        refine lv_icmp_ne (tgt := 54) hx hb dL_does_42 (by decide) (fun c_42 => ?_) (fun c_42 => ?_)
        · refine lv_iload_n hx hb dL_does_54 rfl (lv_at hl 1 rfl) ?_
          refine lv_iconst (v := 4) hx hb dL_does_55 (by decide) ?_
          refine lv_icmp_ne (tgt := 70) hx hb dL_does_56 (by decide) (fun c_56 => ?_) (fun c_56 => ?_)
          · refine lv_iload_n hx hb dL_does_70 rfl (lv_at hl 1 rfl) ?_
            refine lv_iconst (v := 5) hx hb dL_does_71 (by decide) ?_
            refine lv_icmp_ne (tgt := 84) hx hb dL_does_72 (by decide) (fun c_72 => ?_) (fun c_72 => ?_)
            · refine lv_iload_n hx hb dL_does_84 rfl (lv_at hl 1 rfl) ?_
              refine lv_bipush (v := 6) hx hb dL_does_85 (by decide) ?_
              refine lv_icmp_ne (tgt := 101) hx hb dL_does_87 (by decide) (fun c_87 => ?_) (fun c_87 => ?_)
              · refine lv_iload_n hx hb dL_does_101 rfl (lv_at hl 1 rfl) ?_
                refine lv_bipush (v := 7) hx hb dL_does_102 (by decide) ?_
                refine lv_icmp_ne (tgt := 118) hx hb dL_does_104 (by decide) (fun c_104 => ?_) (fun c_104 => ?_)
                · exact absurd c_104 (by decide)
                · refine lv_aload_n hx hb dL_does_107 rfl (lv_at hl 0 rfl) ?_
                  refine lv_iload_n hx hb dL_does_108 rfl (lv_at hl 2 rfl) ?_
                  refine lv_iload_n hx hb dL_does_109 rfl (lv_at hl 3 rfl) ?_
                  refine lv_iload hx hb dL_does_110 (lv_at hl 4 rfl) ?_
                  refine k_xRi X (k_xrunV (As := [.int xu, .int xm, .int xa]) (rest := []) Z X (c_X7_spend l E G S T o ad xu xm xa hE hS hL hK9) (k_cwV 3 Z.1.2.2.2.2 (inU_13 _ (List.mem_of_getElem? (i := 23) rfl)) (inU_14 _ (List.mem_of_getElem? (i := 0) rfl)) (inU_14 _ (List.mem_of_getElem? (i := 1) rfl)) (inU_1 _ (List.mem_of_getElem? (i := 2) rfl)) (inU_14 _ (List.mem_of_getElem? (i := 2) rfl)) rfl rfl (by decide +kernel) ⟨Nat.le_of_ble_eq_true rfl, Nat.le_of_ble_eq_true rfl⟩) (k_recv Z X ct_0 rfl) rfl hl.1 rfl (Nat.le_of_ble_eq_true rfl) dL_does_112 ⟨(Nat.le_of_ble_eq_true rfl), (Nat.le_of_ble_eq_true rfl)⟩) (fun x ce q9 ad1 ct1 H locs hp X x1 x2 x3 => ?_) (fun r_112 ad1 ct1 H locs hp X => ?_)
                  · obtain ⟨hq, ha_, hb_⟩ := hp
                    rw [← ha_, hb_] at X
                    rcases hq with ⟨hk, rfl⟩ | ⟨hk, rfl⟩ | ⟨hk, rfl⟩
                    · refine vx_catch (own := RL) (name := "java/lang/IndexOutOfBoundsException") (E := "java/lang/IndexOutOfBoundsException") Z.1.2.2.2.1 [] ⟨0, 286, 287, 70⟩ [⟨0, 286, 292, 73⟩, ⟨0, 286, 297, 76⟩] (htab.trans rfl) (fun z hz => nomatch hz) rfl (by decide) (Z.1.2.2.2.2 _ (inU_6 _ (List.mem_of_getElem? (i := 7) rfl))) (hE.word Z.2.1 (List.mem_of_getElem? (i := 2) rfl)) x1 x2 x3 ?_
                      refine lv_astore (lv' := [(6, .ref q9), (0, .ref (ad 0 0)), (1, .int 7), (2, .int xu), (3, .int xm), (4, .int xa), (5, .int y3)]) hx hb dL_does_287 hl (by decide) rfl (fun ls hl => ?_)
                      refine lv_ldc (v := (-3000000)) hx hb Z.1.2.2.2.1 (Z.1.2.2.2.2 _ (inU_1 _ (List.mem_of_getElem? (i := 5) rfl))) dL_does_289 ?_
                      exact vx_ret (k_iret Z X hr hlocks rfl (Nat.le_of_ble_eq_true rfl) (Nat.le_of_ble_eq_true rfl) dL_does_291 ⟨AK.rf, Or.inr (Or.inl ⟨hk, rfl, rfl⟩)⟩)
                    · refine vx_catch (own := RL) (name := "java/lang/IllegalArgumentException") (E := "java/lang/IllegalArgumentException") Z.1.2.2.2.1 [⟨0, 286, 287, 70⟩] ⟨0, 286, 292, 73⟩ [⟨0, 286, 297, 76⟩] (htab.trans rfl) (by intro z hz; simp only [List.mem_cons, List.not_mem_nil, or_false] at hz; rcases hz with rfl; exact Or.inr ⟨by decide, _, (Z.1.2.2.2.2 _ (inU_6 _ (List.mem_of_getElem? (i := 7) rfl))), hE.nc Z.2.1 (by decide)⟩) rfl (by decide) (hE.word Z.2.1 (List.mem_of_getElem? (i := 14) rfl)) (hE.word Z.2.1 (List.mem_of_getElem? (i := 0) rfl)) x1 x2 x3 ?_
                      refine lv_astore (lv' := [(6, .ref q9), (0, .ref (ad 0 0)), (1, .int 7), (2, .int xu), (3, .int xm), (4, .int xa), (5, .int y3)]) hx hb dL_does_292 hl (by decide) rfl (fun ls hl => ?_)
                      refine lv_ldc (v := (-2000000)) hx hb Z.1.2.2.2.1 (Z.1.2.2.2.2 _ (inU_1 _ (List.mem_of_getElem? (i := 4) rfl))) dL_does_294 ?_
                      exact vx_ret (k_iret Z X hr hlocks rfl (Nat.le_of_ble_eq_true rfl) (Nat.le_of_ble_eq_true rfl) dL_does_296 ⟨AK.rf, Or.inr (Or.inr (Or.inl ⟨hk, rfl, rfl⟩))⟩)
                    · refine vx_catch (own := RL) (name := "java/lang/IllegalStateException") (E := "java/lang/IllegalStateException") Z.1.2.2.2.1 [⟨0, 286, 287, 70⟩, ⟨0, 286, 292, 73⟩] ⟨0, 286, 297, 76⟩ [] (htab.trans rfl) (by intro z hz; simp only [List.mem_cons, List.not_mem_nil, or_false] at hz; rcases hz with rfl | rfl <;> first | exact Or.inr ⟨by decide, _, (Z.1.2.2.2.2 _ (inU_6 _ (List.mem_of_getElem? (i := 7) rfl))), hE.nc Z.2.1 (by decide)⟩ | exact Or.inr ⟨by decide, _, (hE.word Z.2.1 (List.mem_of_getElem? (i := 14) rfl)), hE.nc Z.2.1 (by decide)⟩) rfl (by decide) (hE.word Z.2.1 (List.mem_of_getElem? (i := 13) rfl)) (hE.word Z.2.1 (List.mem_of_getElem? (i := 1) rfl)) x1 x2 x3 ?_
                      refine lv_astore (lv' := [(6, .ref q9), (0, .ref (ad 0 0)), (1, .int 7), (2, .int xu), (3, .int xm), (4, .int xa), (5, .int y3)]) hx hb dL_does_297 hl (by decide) rfl (fun ls hl => ?_)
                      refine lv_ldc (v := (-1000000)) hx hb Z.1.2.2.2.1 (Z.1.2.2.2.2 _ (inU_1 _ (List.mem_of_getElem? (i := 8) rfl))) dL_does_299 ?_
                      exact vx_ret (k_iret Z X hr hlocks rfl (Nat.le_of_ble_eq_true rfl) (Nat.le_of_ble_eq_true rfl) dL_does_301 ⟨AK.rf, Or.inr (Or.inr (Or.inr ⟨hk, rfl, rfl⟩))⟩)
                  obtain ⟨⟨hk, rfl⟩, hAK, cap, hcap, hb_⟩ := hp
                  rw [hb_] at X
                  refine lv_goto (tgt := 286) hx hb dL_does_115 (by decide) ?_
                  exact vx_ret (k_iret Z X hr hlocks rfl (Nat.le_of_ble_eq_true rfl) (Nat.le_of_ble_eq_true rfl) dL_does_286 ⟨hAK, Or.inl ⟨hk, rfl, _, ⟨cap, hcap, rfl⟩, rfl⟩⟩)
              · exact absurd c_87 (by decide)
            · exact absurd c_72 (by decide)
          · exact absurd c_56 (by decide)
        · exact absurd c_42 (by decide)
      · exact absurd c_28 (by decide)
    · exact absurd c_14 (by decide)
  · exact absurd c_1 (by decide)
set_option maxHeartbeats 4000000 in
set_option maxRecDepth 100000 in
theorem c_L_does_8 (l : Launch) (E : State) (G : kG) (S T : kSt) (o : Int64) (ad : kAd) (xu xm xw xh : Int32) (hE : kE l E G) (hS : okN S) (hL : okL S) (hh0 : ∃ h, h ≤ 512000 ∧ S.1 0 0 = nI h) (hvr : ∀ j, ∃ v, v ≤ 512 ∧ S.1 7 j = nI v) : vx_Met l yL_does (.codeWith yL_does cL_does 7 (some .int) [(0, 286, 287, 70), (0, 286, 292, 73), (0, 286, 297, 76)] :: wsL_law) ({ frames := 16, cells := 20, slots := 400, locals := 460 } : Room) (va_Pc [.ref (ad 0 0), .int 8, .int xu, .int xm, .int xw, .int xh] (kPre E G ad (cto G S T o ad))) (kQi E G (fun r ad1 ct1 => kDP G S T o (AK ad ad1) (cTask S xu xm xw xh) (-3000000) (-2000000) (-1000000) (nI (S.2 0 3)) (fun S1 => ∃ cap : Nat, capok (S.2 0 3) cap ∧ S1 = gT S xm xw xh cap) r ad1 ct1)) (kXC E G (fun _ _ _ => False)) 20 400 (kB E.heap.size) := by
  refine vx_ofWH (cc := cL_does) (maxL := 7) (ret := (some .int)) (by decide) rfl ?_
  intro p e s m args below meth c s₁ B hml hv
  obtain ⟨rfl, hM, hK, hW0⟩ := hv
  have hlocks := B.notSynchronized
  have hr := B.returns
  have Z : kZ p m c cL_does 7 s _ wsL_law RL E G := ⟨⟨B.exec, B.bytes, hml, findClass_of_methodNamed B.named, fun w h => atoms_spec (ws := .codeWith yL_does cL_does 7 (some .int) [(0, 286, 287, 70), (0, 286, 292, 73), (0, 286, 297, 76)] :: wsL_law) B.pre w (List.mem_cons_of_mem _ h)⟩, hM, hK⟩
  have hx := Z.1.1
  have hb := Z.1.2.1
  have X := kX.of hW0
  have hl := lv_entry ([.ref (ad 0 0), .int 8, .int xu, .int xm, .int xw, .int xh]) (n := 7) (Nat.le_of_ble_eq_true rfl)
  rw [lg_entry_eq]
  generalize (lg_sl ([.ref (ad 0 0), .int 8, .int xu, .int xm, .int xw, .int xh]) ++ List.replicate (7 - (lg_sl ([.ref (ad 0 0), .int 8, .int xu, .int xm, .int xw, .int xh])).length) Slot.unset).toArray = ls at hl ⊢
  have hl : lv_has ls 7 [(0, .ref (ad 0 0)), (1, .int 8), (2, .int xu), (3, .int xm), (4, .int xw), (5, .int xh)] := hl
  have htab := vx_table (x := yL_does) B (atoms_spec (ws := .codeWith yL_does cL_does 7 (some .int) [(0, 286, 287, 70), (0, 286, 292, 73), (0, 286, 297, 76)] :: wsL_law) B.pre _ List.mem_cons_self)
  refine lv_iload_n hx hb dL_does_0 rfl (lv_at hl 1 rfl) ?_
  refine lv_if_ne (tgt := 12) hx hb dL_does_1 (by decide) (fun c_1 => ?_) (fun c_1 => ?_)
  · refine lv_iload_n hx hb dL_does_12 rfl (lv_at hl 1 rfl) ?_
    refine lv_iconst (v := 1) hx hb dL_does_13 (by decide) ?_
    refine lv_icmp_ne (tgt := 26) hx hb dL_does_14 (by decide) (fun c_14 => ?_) (fun c_14 => ?_)
    · refine lv_iload_n hx hb dL_does_26 rfl (lv_at hl 1 rfl) ?_
      refine lv_iconst (v := 2) hx hb dL_does_27 (by decide) ?_
      refine lv_icmp_ne (tgt := 40) hx hb dL_does_28 (by decide) (fun c_28 => ?_) (fun c_28 => ?_)
      · refine lv_iload_n hx hb dL_does_40 rfl (lv_at hl 1 rfl) ?_
        refine lv_iconst (v := 3) hx hb dL_does_41 (by decide) ?_
        refine lv_icmp_ne (tgt := 54) hx hb dL_does_42 (by decide) (fun c_42 => ?_) (fun c_42 => ?_)
        · refine lv_iload_n hx hb dL_does_54 rfl (lv_at hl 1 rfl) ?_
          refine lv_iconst (v := 4) hx hb dL_does_55 (by decide) ?_
          refine lv_icmp_ne (tgt := 70) hx hb dL_does_56 (by decide) (fun c_56 => ?_) (fun c_56 => ?_)
          · refine lv_iload_n hx hb dL_does_70 rfl (lv_at hl 1 rfl) ?_
            refine lv_iconst (v := 5) hx hb dL_does_71 (by decide) ?_
            refine lv_icmp_ne (tgt := 84) hx hb dL_does_72 (by decide) (fun c_72 => ?_) (fun c_72 => ?_)
            · refine lv_iload_n hx hb dL_does_84 rfl (lv_at hl 1 rfl) ?_
              refine lv_bipush (v := 6) hx hb dL_does_85 (by decide) ?_
              refine lv_icmp_ne (tgt := 101) hx hb dL_does_87 (by decide) (fun c_87 => ?_) (fun c_87 => ?_)
              · refine lv_iload_n hx hb dL_does_101 rfl (lv_at hl 1 rfl) ?_
                refine lv_bipush (v := 7) hx hb dL_does_102 (by decide) ?_
                refine lv_icmp_ne (tgt := 118) hx hb dL_does_104 (by decide) (fun c_104 => ?_) (fun c_104 => ?_)
                · refine lv_iload_n hx hb dL_does_118 rfl (lv_at hl 1 rfl) ?_
                  refine lv_bipush (v := 8) hx hb dL_does_119 (by decide) ?_
                  refine lv_icmp_ne (tgt := 137) hx hb dL_does_121 (by decide) (fun c_121 => ?_) (fun c_121 => ?_)
                  · exact absurd c_121 (by decide)
                  · refine lv_aload_n hx hb dL_does_124 rfl (lv_at hl 0 rfl) ?_
                    refine lv_iload_n hx hb dL_does_125 rfl (lv_at hl 2 rfl) ?_
                    refine lv_iload_n hx hb dL_does_126 rfl (lv_at hl 3 rfl) ?_
                    refine lv_iload hx hb dL_does_127 (lv_at hl 4 rfl) ?_
                    refine lv_iload hx hb dL_does_129 (lv_at hl 5 rfl) ?_
                    refine k_xRi X (k_xrunV (As := [.int xu, .int xm, .int xw, .int xh]) (rest := []) Z X (c_X7_task l E G S T o ad xu xm xw xh hE hS hL hh0 hvr) (k_cwV 4 Z.1.2.2.2.2 (inU_14 _ (List.mem_of_getElem? (i := 17) rfl)) (inU_14 _ (List.mem_of_getElem? (i := 18) rfl)) (inU_14 _ (List.mem_of_getElem? (i := 19) rfl)) (inU_1 _ (List.mem_of_getElem? (i := 2) rfl)) (inU_14 _ (List.mem_of_getElem? (i := 20) rfl)) rfl rfl (by decide +kernel) ⟨Nat.le_of_ble_eq_true rfl, Nat.le_of_ble_eq_true rfl⟩) (k_recv Z X ct_0 rfl) rfl hl.1 rfl (Nat.le_of_ble_eq_true rfl) dL_does_131 ⟨(Nat.le_of_ble_eq_true rfl), (Nat.le_of_ble_eq_true rfl)⟩) (fun x ce q9 ad1 ct1 H locs hp X x1 x2 x3 => ?_) (fun r_131 ad1 ct1 H locs hp X => ?_)
                    · obtain ⟨hq, ha_, hb_⟩ := hp
                      rw [← ha_, hb_] at X
                      rcases hq with ⟨hk, rfl⟩ | ⟨hk, rfl⟩ | ⟨hk, rfl⟩
                      · refine vx_catch (own := RL) (name := "java/lang/IndexOutOfBoundsException") (E := "java/lang/IndexOutOfBoundsException") Z.1.2.2.2.1 [] ⟨0, 286, 287, 70⟩ [⟨0, 286, 292, 73⟩, ⟨0, 286, 297, 76⟩] (htab.trans rfl) (fun z hz => nomatch hz) rfl (by decide) (Z.1.2.2.2.2 _ (inU_6 _ (List.mem_of_getElem? (i := 7) rfl))) (hE.word Z.2.1 (List.mem_of_getElem? (i := 2) rfl)) x1 x2 x3 ?_
                        refine lv_astore (lv' := [(6, .ref q9), (0, .ref (ad 0 0)), (1, .int 8), (2, .int xu), (3, .int xm), (4, .int xw), (5, .int xh)]) hx hb dL_does_287 hl (by decide) rfl (fun ls hl => ?_)
                        refine lv_ldc (v := (-3000000)) hx hb Z.1.2.2.2.1 (Z.1.2.2.2.2 _ (inU_1 _ (List.mem_of_getElem? (i := 5) rfl))) dL_does_289 ?_
                        exact vx_ret (k_iret Z X hr hlocks rfl (Nat.le_of_ble_eq_true rfl) (Nat.le_of_ble_eq_true rfl) dL_does_291 ⟨AK.rf, Or.inr (Or.inl ⟨hk, rfl, rfl⟩)⟩)
                      · refine vx_catch (own := RL) (name := "java/lang/IllegalArgumentException") (E := "java/lang/IllegalArgumentException") Z.1.2.2.2.1 [⟨0, 286, 287, 70⟩] ⟨0, 286, 292, 73⟩ [⟨0, 286, 297, 76⟩] (htab.trans rfl) (by intro z hz; simp only [List.mem_cons, List.not_mem_nil, or_false] at hz; rcases hz with rfl; exact Or.inr ⟨by decide, _, (Z.1.2.2.2.2 _ (inU_6 _ (List.mem_of_getElem? (i := 7) rfl))), hE.nc Z.2.1 (by decide)⟩) rfl (by decide) (hE.word Z.2.1 (List.mem_of_getElem? (i := 14) rfl)) (hE.word Z.2.1 (List.mem_of_getElem? (i := 0) rfl)) x1 x2 x3 ?_
                        refine lv_astore (lv' := [(6, .ref q9), (0, .ref (ad 0 0)), (1, .int 8), (2, .int xu), (3, .int xm), (4, .int xw), (5, .int xh)]) hx hb dL_does_292 hl (by decide) rfl (fun ls hl => ?_)
                        refine lv_ldc (v := (-2000000)) hx hb Z.1.2.2.2.1 (Z.1.2.2.2.2 _ (inU_1 _ (List.mem_of_getElem? (i := 4) rfl))) dL_does_294 ?_
                        exact vx_ret (k_iret Z X hr hlocks rfl (Nat.le_of_ble_eq_true rfl) (Nat.le_of_ble_eq_true rfl) dL_does_296 ⟨AK.rf, Or.inr (Or.inr (Or.inl ⟨hk, rfl, rfl⟩))⟩)
                      · refine vx_catch (own := RL) (name := "java/lang/IllegalStateException") (E := "java/lang/IllegalStateException") Z.1.2.2.2.1 [⟨0, 286, 287, 70⟩, ⟨0, 286, 292, 73⟩] ⟨0, 286, 297, 76⟩ [] (htab.trans rfl) (by intro z hz; simp only [List.mem_cons, List.not_mem_nil, or_false] at hz; rcases hz with rfl | rfl <;> first | exact Or.inr ⟨by decide, _, (Z.1.2.2.2.2 _ (inU_6 _ (List.mem_of_getElem? (i := 7) rfl))), hE.nc Z.2.1 (by decide)⟩ | exact Or.inr ⟨by decide, _, (hE.word Z.2.1 (List.mem_of_getElem? (i := 14) rfl)), hE.nc Z.2.1 (by decide)⟩) rfl (by decide) (hE.word Z.2.1 (List.mem_of_getElem? (i := 13) rfl)) (hE.word Z.2.1 (List.mem_of_getElem? (i := 1) rfl)) x1 x2 x3 ?_
                        refine lv_astore (lv' := [(6, .ref q9), (0, .ref (ad 0 0)), (1, .int 8), (2, .int xu), (3, .int xm), (4, .int xw), (5, .int xh)]) hx hb dL_does_297 hl (by decide) rfl (fun ls hl => ?_)
                        refine lv_ldc (v := (-1000000)) hx hb Z.1.2.2.2.1 (Z.1.2.2.2.2 _ (inU_1 _ (List.mem_of_getElem? (i := 8) rfl))) dL_does_299 ?_
                        exact vx_ret (k_iret Z X hr hlocks rfl (Nat.le_of_ble_eq_true rfl) (Nat.le_of_ble_eq_true rfl) dL_does_301 ⟨AK.rf, Or.inr (Or.inr (Or.inr ⟨hk, rfl, rfl⟩))⟩)
                    obtain ⟨⟨hk, rfl⟩, hAK, cap, hcap, hb_⟩ := hp
                    rw [hb_] at X
                    refine lv_goto (tgt := 286) hx hb dL_does_134 (by decide) ?_
                    exact vx_ret (k_iret Z X hr hlocks rfl (Nat.le_of_ble_eq_true rfl) (Nat.le_of_ble_eq_true rfl) dL_does_286 ⟨hAK, Or.inl ⟨hk, rfl, _, ⟨cap, hcap, rfl⟩, rfl⟩⟩)
                · exact absurd c_104 (by decide)
              · exact absurd c_87 (by decide)
            · exact absurd c_72 (by decide)
          · exact absurd c_56 (by decide)
        · exact absurd c_42 (by decide)
      · exact absurd c_28 (by decide)
    · exact absurd c_14 (by decide)
  · exact absurd c_1 (by decide)
set_option maxHeartbeats 4000000 in
set_option maxRecDepth 100000 in
theorem c_L_does_9 (l : Launch) (E : State) (G : kG) (S T : kSt) (o : Int64) (ad : kAd) (xu xt y2 y3 : Int32) (hE : kE l E G) (hS : okN S) (hL : okL S) : vx_Met l yL_does (.codeWith yL_does cL_does 7 (some .int) [(0, 286, 287, 70), (0, 286, 292, 73), (0, 286, 297, 76)] :: wsL_law) ({ frames := 16, cells := 20, slots := 400, locals := 460 } : Room) (va_Pc [.ref (ad 0 0), .int 9, .int xu, .int xt, .int y2, .int y3] (kPre E G ad (cto G S T o ad))) (kQi E G (fun r ad1 ct1 => kDP G S T o (ad = ad1) (cDone S xu xt) (-3000000) (-1000000) 0 (S.1 13 (cl xt) - S.1 0 0) (fun S1 => S1 = oDone S xt) r ad1 ct1)) (kXC E G (fun _ _ _ => False)) 20 400 (kB E.heap.size) := by
  refine vx_ofWH (cc := cL_does) (maxL := 7) (ret := (some .int)) (by decide) rfl ?_
  intro p e s m args below meth c s₁ B hml hv
  obtain ⟨rfl, hM, hK, hW0⟩ := hv
  have hlocks := B.notSynchronized
  have hr := B.returns
  have Z : kZ p m c cL_does 7 s _ wsL_law RL E G := ⟨⟨B.exec, B.bytes, hml, findClass_of_methodNamed B.named, fun w h => atoms_spec (ws := .codeWith yL_does cL_does 7 (some .int) [(0, 286, 287, 70), (0, 286, 292, 73), (0, 286, 297, 76)] :: wsL_law) B.pre w (List.mem_cons_of_mem _ h)⟩, hM, hK⟩
  have hx := Z.1.1
  have hb := Z.1.2.1
  have X := kX.of hW0
  have hl := lv_entry ([.ref (ad 0 0), .int 9, .int xu, .int xt, .int y2, .int y3]) (n := 7) (Nat.le_of_ble_eq_true rfl)
  rw [lg_entry_eq]
  generalize (lg_sl ([.ref (ad 0 0), .int 9, .int xu, .int xt, .int y2, .int y3]) ++ List.replicate (7 - (lg_sl ([.ref (ad 0 0), .int 9, .int xu, .int xt, .int y2, .int y3])).length) Slot.unset).toArray = ls at hl ⊢
  have hl : lv_has ls 7 [(0, .ref (ad 0 0)), (1, .int 9), (2, .int xu), (3, .int xt), (4, .int y2), (5, .int y3)] := hl
  have htab := vx_table (x := yL_does) B (atoms_spec (ws := .codeWith yL_does cL_does 7 (some .int) [(0, 286, 287, 70), (0, 286, 292, 73), (0, 286, 297, 76)] :: wsL_law) B.pre _ List.mem_cons_self)
  refine lv_iload_n hx hb dL_does_0 rfl (lv_at hl 1 rfl) ?_
  refine lv_if_ne (tgt := 12) hx hb dL_does_1 (by decide) (fun c_1 => ?_) (fun c_1 => ?_)
  · refine lv_iload_n hx hb dL_does_12 rfl (lv_at hl 1 rfl) ?_
    refine lv_iconst (v := 1) hx hb dL_does_13 (by decide) ?_
    refine lv_icmp_ne (tgt := 26) hx hb dL_does_14 (by decide) (fun c_14 => ?_) (fun c_14 => ?_)
    · refine lv_iload_n hx hb dL_does_26 rfl (lv_at hl 1 rfl) ?_
      refine lv_iconst (v := 2) hx hb dL_does_27 (by decide) ?_
      refine lv_icmp_ne (tgt := 40) hx hb dL_does_28 (by decide) (fun c_28 => ?_) (fun c_28 => ?_)
      · refine lv_iload_n hx hb dL_does_40 rfl (lv_at hl 1 rfl) ?_
        refine lv_iconst (v := 3) hx hb dL_does_41 (by decide) ?_
        refine lv_icmp_ne (tgt := 54) hx hb dL_does_42 (by decide) (fun c_42 => ?_) (fun c_42 => ?_)
        · refine lv_iload_n hx hb dL_does_54 rfl (lv_at hl 1 rfl) ?_
          refine lv_iconst (v := 4) hx hb dL_does_55 (by decide) ?_
          refine lv_icmp_ne (tgt := 70) hx hb dL_does_56 (by decide) (fun c_56 => ?_) (fun c_56 => ?_)
          · refine lv_iload_n hx hb dL_does_70 rfl (lv_at hl 1 rfl) ?_
            refine lv_iconst (v := 5) hx hb dL_does_71 (by decide) ?_
            refine lv_icmp_ne (tgt := 84) hx hb dL_does_72 (by decide) (fun c_72 => ?_) (fun c_72 => ?_)
            · refine lv_iload_n hx hb dL_does_84 rfl (lv_at hl 1 rfl) ?_
              refine lv_bipush (v := 6) hx hb dL_does_85 (by decide) ?_
              refine lv_icmp_ne (tgt := 101) hx hb dL_does_87 (by decide) (fun c_87 => ?_) (fun c_87 => ?_)
              · refine lv_iload_n hx hb dL_does_101 rfl (lv_at hl 1 rfl) ?_
                refine lv_bipush (v := 7) hx hb dL_does_102 (by decide) ?_
                refine lv_icmp_ne (tgt := 118) hx hb dL_does_104 (by decide) (fun c_104 => ?_) (fun c_104 => ?_)
                · refine lv_iload_n hx hb dL_does_118 rfl (lv_at hl 1 rfl) ?_
                  refine lv_bipush (v := 8) hx hb dL_does_119 (by decide) ?_
                  refine lv_icmp_ne (tgt := 137) hx hb dL_does_121 (by decide) (fun c_121 => ?_) (fun c_121 => ?_)
                  · refine lv_iload_n hx hb dL_does_137 rfl (lv_at hl 1 rfl) ?_
                    refine lv_bipush (v := 9) hx hb dL_does_138 (by decide) ?_
                    refine lv_icmp_ne (tgt := 152) hx hb dL_does_140 (by decide) (fun c_140 => ?_) (fun c_140 => ?_)
                    · exact absurd c_140 (by decide)
                    · refine lv_aload_n hx hb dL_does_143 rfl (lv_at hl 0 rfl) ?_
                      refine lv_iload_n hx hb dL_does_144 rfl (lv_at hl 2 rfl) ?_
                      refine lv_iload_n hx hb dL_does_145 rfl (lv_at hl 3 rfl) ?_
                      refine k_xRi X (k_xrunV (As := [.int xu, .int xt]) (rest := []) Z X (c_X7_done l E G S T o ad xu xt hE hS hL) (k_cwV 2 Z.1.2.2.2.2 (inU_23 _ (List.mem_of_getElem? (i := 15) rfl)) (inU_23 _ (List.mem_of_getElem? (i := 16) rfl)) (inU_23 _ (List.mem_of_getElem? (i := 17) rfl)) (inU_1 _ (List.mem_of_getElem? (i := 2) rfl)) (inU_23 _ (List.mem_of_getElem? (i := 18) rfl)) rfl rfl (by decide +kernel) ⟨Nat.le_of_ble_eq_true rfl, Nat.le_of_ble_eq_true rfl⟩) (k_recv Z X ct_0 rfl) rfl hl.1 rfl (Nat.le_of_ble_eq_true rfl) dL_does_146 ⟨(Nat.le_of_ble_eq_true rfl), (Nat.le_of_ble_eq_true rfl)⟩) (fun x ce q9 ad1 ct1 H locs hp X x1 x2 x3 => ?_) (fun r_146 ad1 ct1 H locs hp X => ?_)
                      · obtain ⟨hq, ha_, hb_⟩ := hp
                        rw [← ha_, hb_] at X
                        rcases hq with ⟨hk, rfl⟩ | ⟨hk, rfl⟩
                        · refine vx_catch (own := RL) (name := "java/lang/IndexOutOfBoundsException") (E := "java/lang/IndexOutOfBoundsException") Z.1.2.2.2.1 [] ⟨0, 286, 287, 70⟩ [⟨0, 286, 292, 73⟩, ⟨0, 286, 297, 76⟩] (htab.trans rfl) (fun z hz => nomatch hz) rfl (by decide) (Z.1.2.2.2.2 _ (inU_6 _ (List.mem_of_getElem? (i := 7) rfl))) (hE.word Z.2.1 (List.mem_of_getElem? (i := 2) rfl)) x1 x2 x3 ?_
                          refine lv_astore (lv' := [(6, .ref q9), (0, .ref (ad 0 0)), (1, .int 9), (2, .int xu), (3, .int xt), (4, .int y2), (5, .int y3)]) hx hb dL_does_287 hl (by decide) rfl (fun ls hl => ?_)
                          refine lv_ldc (v := (-3000000)) hx hb Z.1.2.2.2.1 (Z.1.2.2.2.2 _ (inU_1 _ (List.mem_of_getElem? (i := 5) rfl))) dL_does_289 ?_
                          exact vx_ret (k_iret Z X hr hlocks rfl (Nat.le_of_ble_eq_true rfl) (Nat.le_of_ble_eq_true rfl) dL_does_291 ⟨rfl, Or.inr (Or.inl ⟨hk, rfl, rfl⟩)⟩)
                        · refine vx_catch (own := RL) (name := "java/lang/IllegalStateException") (E := "java/lang/IllegalStateException") Z.1.2.2.2.1 [⟨0, 286, 287, 70⟩, ⟨0, 286, 292, 73⟩] ⟨0, 286, 297, 76⟩ [] (htab.trans rfl) (by intro z hz; simp only [List.mem_cons, List.not_mem_nil, or_false] at hz; rcases hz with rfl | rfl <;> first | exact Or.inr ⟨by decide, _, (Z.1.2.2.2.2 _ (inU_6 _ (List.mem_of_getElem? (i := 7) rfl))), hE.nc Z.2.1 (by decide)⟩ | exact Or.inr ⟨by decide, _, (hE.word Z.2.1 (List.mem_of_getElem? (i := 14) rfl)), hE.nc Z.2.1 (by decide)⟩) rfl (by decide) (hE.word Z.2.1 (List.mem_of_getElem? (i := 13) rfl)) (hE.word Z.2.1 (List.mem_of_getElem? (i := 1) rfl)) x1 x2 x3 ?_
                          refine lv_astore (lv' := [(6, .ref q9), (0, .ref (ad 0 0)), (1, .int 9), (2, .int xu), (3, .int xt), (4, .int y2), (5, .int y3)]) hx hb dL_does_297 hl (by decide) rfl (fun ls hl => ?_)
                          refine lv_ldc (v := (-1000000)) hx hb Z.1.2.2.2.1 (Z.1.2.2.2.2 _ (inU_1 _ (List.mem_of_getElem? (i := 8) rfl))) dL_does_299 ?_
                          exact vx_ret (k_iret Z X hr hlocks rfl (Nat.le_of_ble_eq_true rfl) (Nat.le_of_ble_eq_true rfl) dL_does_301 ⟨rfl, Or.inr (Or.inr (Or.inl ⟨hk, rfl, rfl⟩))⟩)
                      obtain ⟨⟨hk, rfl⟩, ha_, hb_⟩ := hp
                      rw [← ha_, hb_] at X
                      refine lv_goto (tgt := 286) hx hb dL_does_149 (by decide) ?_
                      exact vx_ret (k_iret Z X hr hlocks rfl (Nat.le_of_ble_eq_true rfl) (Nat.le_of_ble_eq_true rfl) dL_does_286 ⟨rfl, Or.inl ⟨hk, rfl, _, rfl, rfl⟩⟩)
                  · exact absurd c_121 (by decide)
                · exact absurd c_104 (by decide)
              · exact absurd c_87 (by decide)
            · exact absurd c_72 (by decide)
          · exact absurd c_56 (by decide)
        · exact absurd c_42 (by decide)
      · exact absurd c_28 (by decide)
    · exact absurd c_14 (by decide)
  · exact absurd c_1 (by decide)
set_option maxHeartbeats 4000000 in
set_option maxRecDepth 100000 in
theorem c_L_does_10 (l : Launch) (E : State) (G : kG) (S T : kSt) (o : Int64) (ad : kAd) (xc y1 y2 y3 : Int32) (hE : kE l E G) (hS : okN S) (hL : okL S) : vx_Met l yL_does (.codeWith yL_does cL_does 7 (some .int) [(0, 286, 287, 70), (0, 286, 292, 73), (0, 286, 297, 76)] :: wsL_law) ({ frames := 16, cells := 20, slots := 400, locals := 460 } : Room) (va_Pc [.ref (ad 0 0), .int 10, .int xc, .int y1, .int y2, .int y3] (kPre E G ad (cto G S T o ad))) (kQi E G (fun r ad1 ct1 => kDP G S T o (ad = ad1) (cHold xc) (-3000000) 0 0 (vHold S xc) (fun S1 => S1 = oHold S xc) r ad1 ct1)) (kXC E G (fun _ _ _ => False)) 20 400 (kB E.heap.size) := by
  refine vx_ofWH (cc := cL_does) (maxL := 7) (ret := (some .int)) (by decide) rfl ?_
  intro p e s m args below meth c s₁ B hml hv
  obtain ⟨rfl, hM, hK, hW0⟩ := hv
  have hlocks := B.notSynchronized
  have hr := B.returns
  have Z : kZ p m c cL_does 7 s _ wsL_law RL E G := ⟨⟨B.exec, B.bytes, hml, findClass_of_methodNamed B.named, fun w h => atoms_spec (ws := .codeWith yL_does cL_does 7 (some .int) [(0, 286, 287, 70), (0, 286, 292, 73), (0, 286, 297, 76)] :: wsL_law) B.pre w (List.mem_cons_of_mem _ h)⟩, hM, hK⟩
  have hx := Z.1.1
  have hb := Z.1.2.1
  have X := kX.of hW0
  have hl := lv_entry ([.ref (ad 0 0), .int 10, .int xc, .int y1, .int y2, .int y3]) (n := 7) (Nat.le_of_ble_eq_true rfl)
  rw [lg_entry_eq]
  generalize (lg_sl ([.ref (ad 0 0), .int 10, .int xc, .int y1, .int y2, .int y3]) ++ List.replicate (7 - (lg_sl ([.ref (ad 0 0), .int 10, .int xc, .int y1, .int y2, .int y3])).length) Slot.unset).toArray = ls at hl ⊢
  have hl : lv_has ls 7 [(0, .ref (ad 0 0)), (1, .int 10), (2, .int xc), (3, .int y1), (4, .int y2), (5, .int y3)] := hl
  have htab := vx_table (x := yL_does) B (atoms_spec (ws := .codeWith yL_does cL_does 7 (some .int) [(0, 286, 287, 70), (0, 286, 292, 73), (0, 286, 297, 76)] :: wsL_law) B.pre _ List.mem_cons_self)
  refine lv_iload_n hx hb dL_does_0 rfl (lv_at hl 1 rfl) ?_
  refine lv_if_ne (tgt := 12) hx hb dL_does_1 (by decide) (fun c_1 => ?_) (fun c_1 => ?_)
  · refine lv_iload_n hx hb dL_does_12 rfl (lv_at hl 1 rfl) ?_
    refine lv_iconst (v := 1) hx hb dL_does_13 (by decide) ?_
    refine lv_icmp_ne (tgt := 26) hx hb dL_does_14 (by decide) (fun c_14 => ?_) (fun c_14 => ?_)
    · refine lv_iload_n hx hb dL_does_26 rfl (lv_at hl 1 rfl) ?_
      refine lv_iconst (v := 2) hx hb dL_does_27 (by decide) ?_
      refine lv_icmp_ne (tgt := 40) hx hb dL_does_28 (by decide) (fun c_28 => ?_) (fun c_28 => ?_)
      · refine lv_iload_n hx hb dL_does_40 rfl (lv_at hl 1 rfl) ?_
        refine lv_iconst (v := 3) hx hb dL_does_41 (by decide) ?_
        refine lv_icmp_ne (tgt := 54) hx hb dL_does_42 (by decide) (fun c_42 => ?_) (fun c_42 => ?_)
        · refine lv_iload_n hx hb dL_does_54 rfl (lv_at hl 1 rfl) ?_
          refine lv_iconst (v := 4) hx hb dL_does_55 (by decide) ?_
          refine lv_icmp_ne (tgt := 70) hx hb dL_does_56 (by decide) (fun c_56 => ?_) (fun c_56 => ?_)
          · refine lv_iload_n hx hb dL_does_70 rfl (lv_at hl 1 rfl) ?_
            refine lv_iconst (v := 5) hx hb dL_does_71 (by decide) ?_
            refine lv_icmp_ne (tgt := 84) hx hb dL_does_72 (by decide) (fun c_72 => ?_) (fun c_72 => ?_)
            · refine lv_iload_n hx hb dL_does_84 rfl (lv_at hl 1 rfl) ?_
              refine lv_bipush (v := 6) hx hb dL_does_85 (by decide) ?_
              refine lv_icmp_ne (tgt := 101) hx hb dL_does_87 (by decide) (fun c_87 => ?_) (fun c_87 => ?_)
              · refine lv_iload_n hx hb dL_does_101 rfl (lv_at hl 1 rfl) ?_
                refine lv_bipush (v := 7) hx hb dL_does_102 (by decide) ?_
                refine lv_icmp_ne (tgt := 118) hx hb dL_does_104 (by decide) (fun c_104 => ?_) (fun c_104 => ?_)
                · refine lv_iload_n hx hb dL_does_118 rfl (lv_at hl 1 rfl) ?_
                  refine lv_bipush (v := 8) hx hb dL_does_119 (by decide) ?_
                  refine lv_icmp_ne (tgt := 137) hx hb dL_does_121 (by decide) (fun c_121 => ?_) (fun c_121 => ?_)
                  · refine lv_iload_n hx hb dL_does_137 rfl (lv_at hl 1 rfl) ?_
                    refine lv_bipush (v := 9) hx hb dL_does_138 (by decide) ?_
                    refine lv_icmp_ne (tgt := 152) hx hb dL_does_140 (by decide) (fun c_140 => ?_) (fun c_140 => ?_)
                    · refine lv_iload_n hx hb dL_does_152 rfl (lv_at hl 1 rfl) ?_
                      refine lv_bipush (v := 10) hx hb dL_does_153 (by decide) ?_
                      refine lv_icmp_ne (tgt := 174) hx hb dL_does_155 (by decide) (fun c_155 => ?_) (fun c_155 => ?_)
                      · exact absurd c_155 (by decide)
                      · refine lv_aload_n hx hb dL_does_158 rfl (lv_at hl 0 rfl) ?_
                        refine lv_iload_n hx hb dL_does_159 rfl (lv_at hl 2 rfl) ?_
                        refine k_xRi X (k_xrunV (As := [.int xc]) (rest := []) Z X (c_X7_hold l E G S T o ad xc hE hS hL) (k_cwV 1 Z.1.2.2.2.2 (inU_24 _ (List.mem_of_getElem? (i := 1) rfl)) (inU_24 _ (List.mem_of_getElem? (i := 2) rfl)) (inU_24 _ (List.mem_of_getElem? (i := 3) rfl)) (inU_1 _ (List.mem_of_getElem? (i := 2) rfl)) (inU_24 _ (List.mem_of_getElem? (i := 4) rfl)) rfl rfl (by decide +kernel) ⟨Nat.le_of_ble_eq_true rfl, Nat.le_of_ble_eq_true rfl⟩) (k_recv Z X ct_0 rfl) rfl hl.1 rfl (Nat.le_of_ble_eq_true rfl) dL_does_160 ⟨(Nat.le_of_ble_eq_true rfl), (Nat.le_of_ble_eq_true rfl)⟩) (fun x ce q9 ad1 ct1 H locs hp X x1 x2 x3 => ?_) (fun r_160 ad1 ct1 H locs hp X => ?_)
                        · obtain ⟨hq, ha_, hb_⟩ := hp
                          rw [← ha_, hb_] at X
                          obtain ⟨hk, rfl⟩ := hq
                          · refine vx_catch (own := RL) (name := "java/lang/IndexOutOfBoundsException") (E := "java/lang/IndexOutOfBoundsException") Z.1.2.2.2.1 [] ⟨0, 286, 287, 70⟩ [⟨0, 286, 292, 73⟩, ⟨0, 286, 297, 76⟩] (htab.trans rfl) (fun z hz => nomatch hz) rfl (by decide) (Z.1.2.2.2.2 _ (inU_6 _ (List.mem_of_getElem? (i := 7) rfl))) (hE.word Z.2.1 (List.mem_of_getElem? (i := 2) rfl)) x1 x2 x3 ?_
                            refine lv_astore (lv' := [(6, .ref q9), (0, .ref (ad 0 0)), (1, .int 10), (2, .int xc), (3, .int y1), (4, .int y2), (5, .int y3)]) hx hb dL_does_287 hl (by decide) rfl (fun ls hl => ?_)
                            refine lv_ldc (v := (-3000000)) hx hb Z.1.2.2.2.1 (Z.1.2.2.2.2 _ (inU_1 _ (List.mem_of_getElem? (i := 5) rfl))) dL_does_289 ?_
                            exact vx_ret (k_iret Z X hr hlocks rfl (Nat.le_of_ble_eq_true rfl) (Nat.le_of_ble_eq_true rfl) dL_does_291 ⟨rfl, Or.inr (Or.inl ⟨hk, rfl, rfl⟩)⟩)
                        obtain ⟨⟨hk, rfl⟩, ha_, hb_⟩ := hp
                        rw [← ha_, hb_] at X
                        refine lv_if_eq (tgt := 170) hx hb dL_does_163 (by decide) (fun c_163 => ?_) (fun c_163 => ?_)
                        · have c_163 : (decide (S.1 4 (cl xc) = 0)) = false := bI_0 c_163
                          refine lv_iconst (v := 0) hx hb dL_does_170 (by decide) ?_
                          refine lv_goto (tgt := 286) hx hb dL_does_171 (by decide) ?_
                          exact vx_ret (k_iret Z X hr hlocks rfl (Nat.le_of_ble_eq_true rfl) (Nat.le_of_ble_eq_true rfl) dL_does_286 ⟨rfl, Or.inl ⟨hk, bI_f c_163, _, rfl, rfl⟩⟩)
                        · have c_163 : (decide (S.1 4 (cl xc) = 0)) = true := bI_1 c_163
                          refine lv_iconst (v := 1) hx hb dL_does_166 (by decide) ?_
                          refine lv_goto (tgt := 286) hx hb dL_does_167 (by decide) ?_
                          exact vx_ret (k_iret Z X hr hlocks rfl (Nat.le_of_ble_eq_true rfl) (Nat.le_of_ble_eq_true rfl) dL_does_286 ⟨rfl, Or.inl ⟨hk, bI_t c_163, _, rfl, rfl⟩⟩)
                    · exact absurd c_140 (by decide)
                  · exact absurd c_121 (by decide)
                · exact absurd c_104 (by decide)
              · exact absurd c_87 (by decide)
            · exact absurd c_72 (by decide)
          · exact absurd c_56 (by decide)
        · exact absurd c_42 (by decide)
      · exact absurd c_28 (by decide)
    · exact absurd c_14 (by decide)
  · exact absurd c_1 (by decide)
set_option maxHeartbeats 4000000 in
set_option maxRecDepth 100000 in
theorem c_L_does_11 (l : Launch) (E : State) (G : kG) (S T : kSt) (o : Int64) (ad : kAd) (xc y1 y2 y3 : Int32) (hE : kE l E G) (hS : okN S) (hL : okL S) : vx_Met l yL_does (.codeWith yL_does cL_does 7 (some .int) [(0, 286, 287, 70), (0, 286, 292, 73), (0, 286, 297, 76)] :: wsL_law) ({ frames := 16, cells := 20, slots := 400, locals := 460 } : Room) (va_Pc [.ref (ad 0 0), .int 11, .int xc, .int y1, .int y2, .int y3] (kPre E G ad (cto G S T o ad))) (kQi E G (fun r ad1 ct1 => kDP G S T o (ad = ad1) (cArch S xc) (-3000000) (-1000000) 0 (nI (arcN S (cl xc) (S.2 0 1))) (fun S1 => S1 = arcS S (cl xc) (S.2 0 1)) r ad1 ct1)) (kXC E G (fun _ _ _ => False)) 20 400 (kB E.heap.size) := by
  refine vx_ofWH (cc := cL_does) (maxL := 7) (ret := (some .int)) (by decide) rfl ?_
  intro p e s m args below meth c s₁ B hml hv
  obtain ⟨rfl, hM, hK, hW0⟩ := hv
  have hlocks := B.notSynchronized
  have hr := B.returns
  have Z : kZ p m c cL_does 7 s _ wsL_law RL E G := ⟨⟨B.exec, B.bytes, hml, findClass_of_methodNamed B.named, fun w h => atoms_spec (ws := .codeWith yL_does cL_does 7 (some .int) [(0, 286, 287, 70), (0, 286, 292, 73), (0, 286, 297, 76)] :: wsL_law) B.pre w (List.mem_cons_of_mem _ h)⟩, hM, hK⟩
  have hx := Z.1.1
  have hb := Z.1.2.1
  have X := kX.of hW0
  have hl := lv_entry ([.ref (ad 0 0), .int 11, .int xc, .int y1, .int y2, .int y3]) (n := 7) (Nat.le_of_ble_eq_true rfl)
  rw [lg_entry_eq]
  generalize (lg_sl ([.ref (ad 0 0), .int 11, .int xc, .int y1, .int y2, .int y3]) ++ List.replicate (7 - (lg_sl ([.ref (ad 0 0), .int 11, .int xc, .int y1, .int y2, .int y3])).length) Slot.unset).toArray = ls at hl ⊢
  have hl : lv_has ls 7 [(0, .ref (ad 0 0)), (1, .int 11), (2, .int xc), (3, .int y1), (4, .int y2), (5, .int y3)] := hl
  have htab := vx_table (x := yL_does) B (atoms_spec (ws := .codeWith yL_does cL_does 7 (some .int) [(0, 286, 287, 70), (0, 286, 292, 73), (0, 286, 297, 76)] :: wsL_law) B.pre _ List.mem_cons_self)
  refine lv_iload_n hx hb dL_does_0 rfl (lv_at hl 1 rfl) ?_
  refine lv_if_ne (tgt := 12) hx hb dL_does_1 (by decide) (fun c_1 => ?_) (fun c_1 => ?_)
  · refine lv_iload_n hx hb dL_does_12 rfl (lv_at hl 1 rfl) ?_
    refine lv_iconst (v := 1) hx hb dL_does_13 (by decide) ?_
    refine lv_icmp_ne (tgt := 26) hx hb dL_does_14 (by decide) (fun c_14 => ?_) (fun c_14 => ?_)
    · refine lv_iload_n hx hb dL_does_26 rfl (lv_at hl 1 rfl) ?_
      refine lv_iconst (v := 2) hx hb dL_does_27 (by decide) ?_
      refine lv_icmp_ne (tgt := 40) hx hb dL_does_28 (by decide) (fun c_28 => ?_) (fun c_28 => ?_)
      · refine lv_iload_n hx hb dL_does_40 rfl (lv_at hl 1 rfl) ?_
        refine lv_iconst (v := 3) hx hb dL_does_41 (by decide) ?_
        refine lv_icmp_ne (tgt := 54) hx hb dL_does_42 (by decide) (fun c_42 => ?_) (fun c_42 => ?_)
        · refine lv_iload_n hx hb dL_does_54 rfl (lv_at hl 1 rfl) ?_
          refine lv_iconst (v := 4) hx hb dL_does_55 (by decide) ?_
          refine lv_icmp_ne (tgt := 70) hx hb dL_does_56 (by decide) (fun c_56 => ?_) (fun c_56 => ?_)
          · refine lv_iload_n hx hb dL_does_70 rfl (lv_at hl 1 rfl) ?_
            refine lv_iconst (v := 5) hx hb dL_does_71 (by decide) ?_
            refine lv_icmp_ne (tgt := 84) hx hb dL_does_72 (by decide) (fun c_72 => ?_) (fun c_72 => ?_)
            · refine lv_iload_n hx hb dL_does_84 rfl (lv_at hl 1 rfl) ?_
              refine lv_bipush (v := 6) hx hb dL_does_85 (by decide) ?_
              refine lv_icmp_ne (tgt := 101) hx hb dL_does_87 (by decide) (fun c_87 => ?_) (fun c_87 => ?_)
              · refine lv_iload_n hx hb dL_does_101 rfl (lv_at hl 1 rfl) ?_
                refine lv_bipush (v := 7) hx hb dL_does_102 (by decide) ?_
                refine lv_icmp_ne (tgt := 118) hx hb dL_does_104 (by decide) (fun c_104 => ?_) (fun c_104 => ?_)
                · refine lv_iload_n hx hb dL_does_118 rfl (lv_at hl 1 rfl) ?_
                  refine lv_bipush (v := 8) hx hb dL_does_119 (by decide) ?_
                  refine lv_icmp_ne (tgt := 137) hx hb dL_does_121 (by decide) (fun c_121 => ?_) (fun c_121 => ?_)
                  · refine lv_iload_n hx hb dL_does_137 rfl (lv_at hl 1 rfl) ?_
                    refine lv_bipush (v := 9) hx hb dL_does_138 (by decide) ?_
                    refine lv_icmp_ne (tgt := 152) hx hb dL_does_140 (by decide) (fun c_140 => ?_) (fun c_140 => ?_)
                    · refine lv_iload_n hx hb dL_does_152 rfl (lv_at hl 1 rfl) ?_
                      refine lv_bipush (v := 10) hx hb dL_does_153 (by decide) ?_
                      refine lv_icmp_ne (tgt := 174) hx hb dL_does_155 (by decide) (fun c_155 => ?_) (fun c_155 => ?_)
                      · refine lv_iload_n hx hb dL_does_174 rfl (lv_at hl 1 rfl) ?_
                        refine lv_bipush (v := 11) hx hb dL_does_175 (by decide) ?_
                        refine lv_icmp_ne (tgt := 188) hx hb dL_does_177 (by decide) (fun c_177 => ?_) (fun c_177 => ?_)
                        · exact absurd c_177 (by decide)
                        · refine lv_aload_n hx hb dL_does_180 rfl (lv_at hl 0 rfl) ?_
                          refine lv_iload_n hx hb dL_does_181 rfl (lv_at hl 2 rfl) ?_
                          refine k_xRi X (k_xrunV (As := [.int xc]) (rest := []) Z X (c_X7_archive l E G S T o ad xc hE hS hL) (k_cwV 1 Z.1.2.2.2.2 (inU_24 _ (List.mem_of_getElem? (i := 6) rfl)) (inU_24 _ (List.mem_of_getElem? (i := 7) rfl)) (inU_24 _ (List.mem_of_getElem? (i := 8) rfl)) (inU_1 _ (List.mem_of_getElem? (i := 2) rfl)) (inU_24 _ (List.mem_of_getElem? (i := 9) rfl)) rfl rfl (by decide +kernel) ⟨Nat.le_of_ble_eq_true rfl, Nat.le_of_ble_eq_true rfl⟩) (k_recv Z X ct_0 rfl) rfl hl.1 rfl (Nat.le_of_ble_eq_true rfl) dL_does_182 ⟨(Nat.le_of_ble_eq_true rfl), (Nat.le_of_ble_eq_true rfl)⟩) (fun x ce q9 ad1 ct1 H locs hp X x1 x2 x3 => ?_) (fun r_182 ad1 ct1 H locs hp X => ?_)
                          · obtain ⟨hq, ha_, hb_⟩ := hp
                            rw [← ha_, hb_] at X
                            rcases hq with ⟨hk, rfl⟩ | ⟨hk, rfl⟩
                            · refine vx_catch (own := RL) (name := "java/lang/IndexOutOfBoundsException") (E := "java/lang/IndexOutOfBoundsException") Z.1.2.2.2.1 [] ⟨0, 286, 287, 70⟩ [⟨0, 286, 292, 73⟩, ⟨0, 286, 297, 76⟩] (htab.trans rfl) (fun z hz => nomatch hz) rfl (by decide) (Z.1.2.2.2.2 _ (inU_6 _ (List.mem_of_getElem? (i := 7) rfl))) (hE.word Z.2.1 (List.mem_of_getElem? (i := 2) rfl)) x1 x2 x3 ?_
                              refine lv_astore (lv' := [(6, .ref q9), (0, .ref (ad 0 0)), (1, .int 11), (2, .int xc), (3, .int y1), (4, .int y2), (5, .int y3)]) hx hb dL_does_287 hl (by decide) rfl (fun ls hl => ?_)
                              refine lv_ldc (v := (-3000000)) hx hb Z.1.2.2.2.1 (Z.1.2.2.2.2 _ (inU_1 _ (List.mem_of_getElem? (i := 5) rfl))) dL_does_289 ?_
                              exact vx_ret (k_iret Z X hr hlocks rfl (Nat.le_of_ble_eq_true rfl) (Nat.le_of_ble_eq_true rfl) dL_does_291 ⟨rfl, Or.inr (Or.inl ⟨hk, rfl, rfl⟩)⟩)
                            · refine vx_catch (own := RL) (name := "java/lang/IllegalStateException") (E := "java/lang/IllegalStateException") Z.1.2.2.2.1 [⟨0, 286, 287, 70⟩, ⟨0, 286, 292, 73⟩] ⟨0, 286, 297, 76⟩ [] (htab.trans rfl) (by intro z hz; simp only [List.mem_cons, List.not_mem_nil, or_false] at hz; rcases hz with rfl | rfl <;> first | exact Or.inr ⟨by decide, _, (Z.1.2.2.2.2 _ (inU_6 _ (List.mem_of_getElem? (i := 7) rfl))), hE.nc Z.2.1 (by decide)⟩ | exact Or.inr ⟨by decide, _, (hE.word Z.2.1 (List.mem_of_getElem? (i := 14) rfl)), hE.nc Z.2.1 (by decide)⟩) rfl (by decide) (hE.word Z.2.1 (List.mem_of_getElem? (i := 13) rfl)) (hE.word Z.2.1 (List.mem_of_getElem? (i := 1) rfl)) x1 x2 x3 ?_
                              refine lv_astore (lv' := [(6, .ref q9), (0, .ref (ad 0 0)), (1, .int 11), (2, .int xc), (3, .int y1), (4, .int y2), (5, .int y3)]) hx hb dL_does_297 hl (by decide) rfl (fun ls hl => ?_)
                              refine lv_ldc (v := (-1000000)) hx hb Z.1.2.2.2.1 (Z.1.2.2.2.2 _ (inU_1 _ (List.mem_of_getElem? (i := 8) rfl))) dL_does_299 ?_
                              exact vx_ret (k_iret Z X hr hlocks rfl (Nat.le_of_ble_eq_true rfl) (Nat.le_of_ble_eq_true rfl) dL_does_301 ⟨rfl, Or.inr (Or.inr (Or.inl ⟨hk, rfl, rfl⟩))⟩)
                          obtain ⟨⟨hk, rfl⟩, ha_, hb_⟩ := hp
                          rw [← ha_, hb_] at X
                          refine lv_goto (tgt := 286) hx hb dL_does_185 (by decide) ?_
                          exact vx_ret (k_iret Z X hr hlocks rfl (Nat.le_of_ble_eq_true rfl) (Nat.le_of_ble_eq_true rfl) dL_does_286 ⟨rfl, Or.inl ⟨hk, rfl, _, rfl, rfl⟩⟩)
                      · exact absurd c_155 (by decide)
                    · exact absurd c_140 (by decide)
                  · exact absurd c_121 (by decide)
                · exact absurd c_104 (by decide)
              · exact absurd c_87 (by decide)
            · exact absurd c_72 (by decide)
          · exact absurd c_56 (by decide)
        · exact absurd c_42 (by decide)
      · exact absurd c_28 (by decide)
    · exact absurd c_14 (by decide)
  · exact absurd c_1 (by decide)
set_option maxHeartbeats 4000000 in
set_option maxRecDepth 100000 in
theorem c_L_does_12 (l : Launch) (E : State) (G : kG) (S T : kSt) (o : Int64) (ad : kAd) (xh y1 y2 y3 : Int32) (hE : kE l E G) (hS : okN S) (hL : okL S) (hK9 : okK S) : vx_Met l yL_does (.codeWith yL_does cL_does 7 (some .int) [(0, 286, 287, 70), (0, 286, 292, 73), (0, 286, 297, 76)] :: wsL_law) ({ frames := 16, cells := 20, slots := 400, locals := 460 } : Room) (va_Pc [.ref (ad 0 0), .int 12, .int xh, .int y1, .int y2, .int y3] (kPre E G ad (cto G S T o ad))) (kQi E G (fun r ad1 ct1 => kDP G S T o (ad = ad1) (cPass xh) (-2000000) 0 0 (S.1 0 0 + xh) (fun S1 => S1 = oPassC S xh) r ad1 ct1)) (kXC E G (fun _ _ _ => False)) 20 400 (kB E.heap.size) := by
  refine vx_ofWH (cc := cL_does) (maxL := 7) (ret := (some .int)) (by decide) rfl ?_
  intro p e s m args below meth c s₁ B hml hv
  obtain ⟨rfl, hM, hK, hW0⟩ := hv
  have hlocks := B.notSynchronized
  have hr := B.returns
  have Z : kZ p m c cL_does 7 s _ wsL_law RL E G := ⟨⟨B.exec, B.bytes, hml, findClass_of_methodNamed B.named, fun w h => atoms_spec (ws := .codeWith yL_does cL_does 7 (some .int) [(0, 286, 287, 70), (0, 286, 292, 73), (0, 286, 297, 76)] :: wsL_law) B.pre w (List.mem_cons_of_mem _ h)⟩, hM, hK⟩
  have hx := Z.1.1
  have hb := Z.1.2.1
  have X := kX.of hW0
  have hl := lv_entry ([.ref (ad 0 0), .int 12, .int xh, .int y1, .int y2, .int y3]) (n := 7) (Nat.le_of_ble_eq_true rfl)
  rw [lg_entry_eq]
  generalize (lg_sl ([.ref (ad 0 0), .int 12, .int xh, .int y1, .int y2, .int y3]) ++ List.replicate (7 - (lg_sl ([.ref (ad 0 0), .int 12, .int xh, .int y1, .int y2, .int y3])).length) Slot.unset).toArray = ls at hl ⊢
  have hl : lv_has ls 7 [(0, .ref (ad 0 0)), (1, .int 12), (2, .int xh), (3, .int y1), (4, .int y2), (5, .int y3)] := hl
  have htab := vx_table (x := yL_does) B (atoms_spec (ws := .codeWith yL_does cL_does 7 (some .int) [(0, 286, 287, 70), (0, 286, 292, 73), (0, 286, 297, 76)] :: wsL_law) B.pre _ List.mem_cons_self)
  refine lv_iload_n hx hb dL_does_0 rfl (lv_at hl 1 rfl) ?_
  refine lv_if_ne (tgt := 12) hx hb dL_does_1 (by decide) (fun c_1 => ?_) (fun c_1 => ?_)
  · refine lv_iload_n hx hb dL_does_12 rfl (lv_at hl 1 rfl) ?_
    refine lv_iconst (v := 1) hx hb dL_does_13 (by decide) ?_
    refine lv_icmp_ne (tgt := 26) hx hb dL_does_14 (by decide) (fun c_14 => ?_) (fun c_14 => ?_)
    · refine lv_iload_n hx hb dL_does_26 rfl (lv_at hl 1 rfl) ?_
      refine lv_iconst (v := 2) hx hb dL_does_27 (by decide) ?_
      refine lv_icmp_ne (tgt := 40) hx hb dL_does_28 (by decide) (fun c_28 => ?_) (fun c_28 => ?_)
      · refine lv_iload_n hx hb dL_does_40 rfl (lv_at hl 1 rfl) ?_
        refine lv_iconst (v := 3) hx hb dL_does_41 (by decide) ?_
        refine lv_icmp_ne (tgt := 54) hx hb dL_does_42 (by decide) (fun c_42 => ?_) (fun c_42 => ?_)
        · refine lv_iload_n hx hb dL_does_54 rfl (lv_at hl 1 rfl) ?_
          refine lv_iconst (v := 4) hx hb dL_does_55 (by decide) ?_
          refine lv_icmp_ne (tgt := 70) hx hb dL_does_56 (by decide) (fun c_56 => ?_) (fun c_56 => ?_)
          · refine lv_iload_n hx hb dL_does_70 rfl (lv_at hl 1 rfl) ?_
            refine lv_iconst (v := 5) hx hb dL_does_71 (by decide) ?_
            refine lv_icmp_ne (tgt := 84) hx hb dL_does_72 (by decide) (fun c_72 => ?_) (fun c_72 => ?_)
            · refine lv_iload_n hx hb dL_does_84 rfl (lv_at hl 1 rfl) ?_
              refine lv_bipush (v := 6) hx hb dL_does_85 (by decide) ?_
              refine lv_icmp_ne (tgt := 101) hx hb dL_does_87 (by decide) (fun c_87 => ?_) (fun c_87 => ?_)
              · refine lv_iload_n hx hb dL_does_101 rfl (lv_at hl 1 rfl) ?_
                refine lv_bipush (v := 7) hx hb dL_does_102 (by decide) ?_
                refine lv_icmp_ne (tgt := 118) hx hb dL_does_104 (by decide) (fun c_104 => ?_) (fun c_104 => ?_)
                · refine lv_iload_n hx hb dL_does_118 rfl (lv_at hl 1 rfl) ?_
                  refine lv_bipush (v := 8) hx hb dL_does_119 (by decide) ?_
                  refine lv_icmp_ne (tgt := 137) hx hb dL_does_121 (by decide) (fun c_121 => ?_) (fun c_121 => ?_)
                  · refine lv_iload_n hx hb dL_does_137 rfl (lv_at hl 1 rfl) ?_
                    refine lv_bipush (v := 9) hx hb dL_does_138 (by decide) ?_
                    refine lv_icmp_ne (tgt := 152) hx hb dL_does_140 (by decide) (fun c_140 => ?_) (fun c_140 => ?_)
                    · refine lv_iload_n hx hb dL_does_152 rfl (lv_at hl 1 rfl) ?_
                      refine lv_bipush (v := 10) hx hb dL_does_153 (by decide) ?_
                      refine lv_icmp_ne (tgt := 174) hx hb dL_does_155 (by decide) (fun c_155 => ?_) (fun c_155 => ?_)
                      · refine lv_iload_n hx hb dL_does_174 rfl (lv_at hl 1 rfl) ?_
                        refine lv_bipush (v := 11) hx hb dL_does_175 (by decide) ?_
                        refine lv_icmp_ne (tgt := 188) hx hb dL_does_177 (by decide) (fun c_177 => ?_) (fun c_177 => ?_)
                        · refine lv_iload_n hx hb dL_does_188 rfl (lv_at hl 1 rfl) ?_
                          refine lv_bipush (v := 12) hx hb dL_does_189 (by decide) ?_
                          refine lv_icmp_ne (tgt := 202) hx hb dL_does_191 (by decide) (fun c_191 => ?_) (fun c_191 => ?_)
                          · exact absurd c_191 (by decide)
                          · refine lv_aload_n hx hb dL_does_194 rfl (lv_at hl 0 rfl) ?_
                            refine lv_iload_n hx hb dL_does_195 rfl (lv_at hl 2 rfl) ?_
                            refine k_xRi X (k_xrunV (As := [.int xh]) (rest := []) Z X (c_X7_pass l E G S T o ad xh hE hS hL hK9) (k_cwV 1 Z.1.2.2.2.2 (inU_25 _ (List.mem_of_getElem? (i := 4) rfl)) (inU_25 _ (List.mem_of_getElem? (i := 5) rfl)) (inU_25 _ (List.mem_of_getElem? (i := 6) rfl)) (inU_1 _ (List.mem_of_getElem? (i := 2) rfl)) (inU_25 _ (List.mem_of_getElem? (i := 7) rfl)) rfl rfl (by decide +kernel) ⟨Nat.le_of_ble_eq_true rfl, Nat.le_of_ble_eq_true rfl⟩) (k_recv Z X ct_0 rfl) rfl hl.1 rfl (Nat.le_of_ble_eq_true rfl) dL_does_196 ⟨(Nat.le_of_ble_eq_true rfl), (Nat.le_of_ble_eq_true rfl)⟩) (fun x ce q9 ad1 ct1 H locs hp X x1 x2 x3 => ?_) (fun r_196 ad1 ct1 H locs hp X => ?_)
                            · obtain ⟨hq, ha_, hb_⟩ := hp
                              rw [← ha_, hb_] at X
                              obtain ⟨hk, rfl⟩ := hq
                              · refine vx_catch (own := RL) (name := "java/lang/IllegalArgumentException") (E := "java/lang/IllegalArgumentException") Z.1.2.2.2.1 [⟨0, 286, 287, 70⟩] ⟨0, 286, 292, 73⟩ [⟨0, 286, 297, 76⟩] (htab.trans rfl) (by intro z hz; simp only [List.mem_cons, List.not_mem_nil, or_false] at hz; rcases hz with rfl; exact Or.inr ⟨by decide, _, (Z.1.2.2.2.2 _ (inU_6 _ (List.mem_of_getElem? (i := 7) rfl))), hE.nc Z.2.1 (by decide)⟩) rfl (by decide) (hE.word Z.2.1 (List.mem_of_getElem? (i := 14) rfl)) (hE.word Z.2.1 (List.mem_of_getElem? (i := 0) rfl)) x1 x2 x3 ?_
                                refine lv_astore (lv' := [(6, .ref q9), (0, .ref (ad 0 0)), (1, .int 12), (2, .int xh), (3, .int y1), (4, .int y2), (5, .int y3)]) hx hb dL_does_292 hl (by decide) rfl (fun ls hl => ?_)
                                refine lv_ldc (v := (-2000000)) hx hb Z.1.2.2.2.1 (Z.1.2.2.2.2 _ (inU_1 _ (List.mem_of_getElem? (i := 4) rfl))) dL_does_294 ?_
                                exact vx_ret (k_iret Z X hr hlocks rfl (Nat.le_of_ble_eq_true rfl) (Nat.le_of_ble_eq_true rfl) dL_does_296 ⟨rfl, Or.inr (Or.inl ⟨hk, rfl, rfl⟩)⟩)
                            obtain ⟨⟨hk, rfl⟩, ha_, hb_⟩ := hp
                            rw [← ha_, hb_] at X
                            refine lv_goto (tgt := 286) hx hb dL_does_199 (by decide) ?_
                            exact vx_ret (k_iret Z X hr hlocks rfl (Nat.le_of_ble_eq_true rfl) (Nat.le_of_ble_eq_true rfl) dL_does_286 ⟨rfl, Or.inl ⟨hk, rfl, _, rfl, rfl⟩⟩)
                        · exact absurd c_177 (by decide)
                      · exact absurd c_155 (by decide)
                    · exact absurd c_140 (by decide)
                  · exact absurd c_121 (by decide)
                · exact absurd c_104 (by decide)
              · exact absurd c_87 (by decide)
            · exact absurd c_72 (by decide)
          · exact absurd c_56 (by decide)
        · exact absurd c_42 (by decide)
      · exact absurd c_28 (by decide)
    · exact absurd c_14 (by decide)
  · exact absurd c_1 (by decide)
set_option maxHeartbeats 4000000 in
set_option maxRecDepth 100000 in
theorem c_L_does_13 (l : Launch) (E : State) (G : kG) (S T : kSt) (o : Int64) (ad : kAd) (xm xw y2 y3 : Int32) (hE : kE l E G) (hS : okN S) (hL : okL S) : vx_Met l yL_does (.codeWith yL_does cL_does 7 (some .int) [(0, 286, 287, 70), (0, 286, 292, 73), (0, 286, 297, 76)] :: wsL_law) ({ frames := 16, cells := 2, slots := 12, locals := 460 } : Room) (va_Pc [.ref (ad 0 0), .int 13, .int xm, .int xw, .int y2, .int y3] (kPre E G ad (cto G S T o ad))) (kQi E G (fun r ad1 ct1 => kDP G S T o (ad = ad1) (cMsgOf S xm xw) (-3000000) (-2000000) 0 (rMsgOf S (kdS S) xm xw) (fun S1 => S1 = S) r ad1 ct1)) (kXC E G (fun _ _ _ => False)) 2 12 (kB E.heap.size) := by
  refine vx_ofWH (cc := cL_does) (maxL := 7) (ret := (some .int)) (by decide) rfl ?_
  intro p e s m args below meth c s₁ B hml hv
  obtain ⟨rfl, hM, hK, hW0⟩ := hv
  have hlocks := B.notSynchronized
  have hr := B.returns
  have Z : kZ p m c cL_does 7 s _ wsL_law RL E G := ⟨⟨B.exec, B.bytes, hml, findClass_of_methodNamed B.named, fun w h => atoms_spec (ws := .codeWith yL_does cL_does 7 (some .int) [(0, 286, 287, 70), (0, 286, 292, 73), (0, 286, 297, 76)] :: wsL_law) B.pre w (List.mem_cons_of_mem _ h)⟩, hM, hK⟩
  have hx := Z.1.1
  have hb := Z.1.2.1
  have X := kX.of hW0
  have hl := lv_entry ([.ref (ad 0 0), .int 13, .int xm, .int xw, .int y2, .int y3]) (n := 7) (Nat.le_of_ble_eq_true rfl)
  rw [lg_entry_eq]
  generalize (lg_sl ([.ref (ad 0 0), .int 13, .int xm, .int xw, .int y2, .int y3]) ++ List.replicate (7 - (lg_sl ([.ref (ad 0 0), .int 13, .int xm, .int xw, .int y2, .int y3])).length) Slot.unset).toArray = ls at hl ⊢
  have hl : lv_has ls 7 [(0, .ref (ad 0 0)), (1, .int 13), (2, .int xm), (3, .int xw), (4, .int y2), (5, .int y3)] := hl
  have htab := vx_table (x := yL_does) B (atoms_spec (ws := .codeWith yL_does cL_does 7 (some .int) [(0, 286, 287, 70), (0, 286, 292, 73), (0, 286, 297, 76)] :: wsL_law) B.pre _ List.mem_cons_self)
  refine lv_iload_n hx hb dL_does_0 rfl (lv_at hl 1 rfl) ?_
  refine lv_if_ne (tgt := 12) hx hb dL_does_1 (by decide) (fun c_1 => ?_) (fun c_1 => ?_)
  · refine lv_iload_n hx hb dL_does_12 rfl (lv_at hl 1 rfl) ?_
    refine lv_iconst (v := 1) hx hb dL_does_13 (by decide) ?_
    refine lv_icmp_ne (tgt := 26) hx hb dL_does_14 (by decide) (fun c_14 => ?_) (fun c_14 => ?_)
    · refine lv_iload_n hx hb dL_does_26 rfl (lv_at hl 1 rfl) ?_
      refine lv_iconst (v := 2) hx hb dL_does_27 (by decide) ?_
      refine lv_icmp_ne (tgt := 40) hx hb dL_does_28 (by decide) (fun c_28 => ?_) (fun c_28 => ?_)
      · refine lv_iload_n hx hb dL_does_40 rfl (lv_at hl 1 rfl) ?_
        refine lv_iconst (v := 3) hx hb dL_does_41 (by decide) ?_
        refine lv_icmp_ne (tgt := 54) hx hb dL_does_42 (by decide) (fun c_42 => ?_) (fun c_42 => ?_)
        · refine lv_iload_n hx hb dL_does_54 rfl (lv_at hl 1 rfl) ?_
          refine lv_iconst (v := 4) hx hb dL_does_55 (by decide) ?_
          refine lv_icmp_ne (tgt := 70) hx hb dL_does_56 (by decide) (fun c_56 => ?_) (fun c_56 => ?_)
          · refine lv_iload_n hx hb dL_does_70 rfl (lv_at hl 1 rfl) ?_
            refine lv_iconst (v := 5) hx hb dL_does_71 (by decide) ?_
            refine lv_icmp_ne (tgt := 84) hx hb dL_does_72 (by decide) (fun c_72 => ?_) (fun c_72 => ?_)
            · refine lv_iload_n hx hb dL_does_84 rfl (lv_at hl 1 rfl) ?_
              refine lv_bipush (v := 6) hx hb dL_does_85 (by decide) ?_
              refine lv_icmp_ne (tgt := 101) hx hb dL_does_87 (by decide) (fun c_87 => ?_) (fun c_87 => ?_)
              · refine lv_iload_n hx hb dL_does_101 rfl (lv_at hl 1 rfl) ?_
                refine lv_bipush (v := 7) hx hb dL_does_102 (by decide) ?_
                refine lv_icmp_ne (tgt := 118) hx hb dL_does_104 (by decide) (fun c_104 => ?_) (fun c_104 => ?_)
                · refine lv_iload_n hx hb dL_does_118 rfl (lv_at hl 1 rfl) ?_
                  refine lv_bipush (v := 8) hx hb dL_does_119 (by decide) ?_
                  refine lv_icmp_ne (tgt := 137) hx hb dL_does_121 (by decide) (fun c_121 => ?_) (fun c_121 => ?_)
                  · refine lv_iload_n hx hb dL_does_137 rfl (lv_at hl 1 rfl) ?_
                    refine lv_bipush (v := 9) hx hb dL_does_138 (by decide) ?_
                    refine lv_icmp_ne (tgt := 152) hx hb dL_does_140 (by decide) (fun c_140 => ?_) (fun c_140 => ?_)
                    · refine lv_iload_n hx hb dL_does_152 rfl (lv_at hl 1 rfl) ?_
                      refine lv_bipush (v := 10) hx hb dL_does_153 (by decide) ?_
                      refine lv_icmp_ne (tgt := 174) hx hb dL_does_155 (by decide) (fun c_155 => ?_) (fun c_155 => ?_)
                      · refine lv_iload_n hx hb dL_does_174 rfl (lv_at hl 1 rfl) ?_
                        refine lv_bipush (v := 11) hx hb dL_does_175 (by decide) ?_
                        refine lv_icmp_ne (tgt := 188) hx hb dL_does_177 (by decide) (fun c_177 => ?_) (fun c_177 => ?_)
                        · refine lv_iload_n hx hb dL_does_188 rfl (lv_at hl 1 rfl) ?_
                          refine lv_bipush (v := 12) hx hb dL_does_189 (by decide) ?_
                          refine lv_icmp_ne (tgt := 202) hx hb dL_does_191 (by decide) (fun c_191 => ?_) (fun c_191 => ?_)
                          · refine lv_iload_n hx hb dL_does_202 rfl (lv_at hl 1 rfl) ?_
                            refine lv_bipush (v := 13) hx hb dL_does_203 (by decide) ?_
                            refine lv_icmp_ne (tgt := 217) hx hb dL_does_205 (by decide) (fun c_205 => ?_) (fun c_205 => ?_)
                            · exact absurd c_205 (by decide)
                            · refine lv_aload_n hx hb dL_does_208 rfl (lv_at hl 0 rfl) ?_
                              refine lv_iload_n hx hb dL_does_209 rfl (lv_at hl 2 rfl) ?_
                              refine lv_iload_n hx hb dL_does_210 rfl (lv_at hl 3 rfl) ?_
                              refine k_xRi X (k_xrunV (As := [.int xm, .int xw]) (rest := []) Z X (c_X7_messageOf l E G S T o ad xm xw hE hS hL) (k_cwV 2 Z.1.2.2.2.2 (inU_25 _ (List.mem_of_getElem? (i := 8) rfl)) (inU_25 _ (List.mem_of_getElem? (i := 9) rfl)) (inU_25 _ (List.mem_of_getElem? (i := 10) rfl)) (inU_1 _ (List.mem_of_getElem? (i := 2) rfl)) (inU_25 _ (List.mem_of_getElem? (i := 11) rfl)) rfl rfl (by decide +kernel) ⟨Nat.le_of_ble_eq_true rfl, Nat.le_of_ble_eq_true rfl⟩) (k_recv Z X ct_0 rfl) rfl hl.1 rfl (Nat.le_of_ble_eq_true rfl) dL_does_211 ⟨(Nat.le_of_ble_eq_true rfl), (Nat.le_of_ble_eq_true rfl)⟩) (fun x ce q9 ad1 ct1 H locs hp X x1 x2 x3 => ?_) (fun r_211 ad1 ct1 H locs hp X => ?_)
                              · obtain ⟨hq, ha_, hb_⟩ := hp
                                rw [← ha_, hb_] at X
                                rcases hq with ⟨hk, rfl⟩ | ⟨hk, rfl⟩
                                · refine vx_catch (own := RL) (name := "java/lang/IndexOutOfBoundsException") (E := "java/lang/IndexOutOfBoundsException") Z.1.2.2.2.1 [] ⟨0, 286, 287, 70⟩ [⟨0, 286, 292, 73⟩, ⟨0, 286, 297, 76⟩] (htab.trans rfl) (fun z hz => nomatch hz) rfl (by decide) (Z.1.2.2.2.2 _ (inU_6 _ (List.mem_of_getElem? (i := 7) rfl))) (hE.word Z.2.1 (List.mem_of_getElem? (i := 2) rfl)) x1 x2 x3 ?_
                                  refine lv_astore (lv' := [(6, .ref q9), (0, .ref (ad 0 0)), (1, .int 13), (2, .int xm), (3, .int xw), (4, .int y2), (5, .int y3)]) hx hb dL_does_287 hl (by decide) rfl (fun ls hl => ?_)
                                  refine lv_ldc (v := (-3000000)) hx hb Z.1.2.2.2.1 (Z.1.2.2.2.2 _ (inU_1 _ (List.mem_of_getElem? (i := 5) rfl))) dL_does_289 ?_
                                  exact vx_ret (k_iret Z X hr hlocks rfl (Nat.le_of_ble_eq_true rfl) (Nat.le_of_ble_eq_true rfl) dL_does_291 ⟨rfl, Or.inr (Or.inl ⟨hk, rfl, rfl⟩)⟩)
                                · refine vx_catch (own := RL) (name := "java/lang/IllegalArgumentException") (E := "java/lang/IllegalArgumentException") Z.1.2.2.2.1 [⟨0, 286, 287, 70⟩] ⟨0, 286, 292, 73⟩ [⟨0, 286, 297, 76⟩] (htab.trans rfl) (by intro z hz; simp only [List.mem_cons, List.not_mem_nil, or_false] at hz; rcases hz with rfl; exact Or.inr ⟨by decide, _, (Z.1.2.2.2.2 _ (inU_6 _ (List.mem_of_getElem? (i := 7) rfl))), hE.nc Z.2.1 (by decide)⟩) rfl (by decide) (hE.word Z.2.1 (List.mem_of_getElem? (i := 14) rfl)) (hE.word Z.2.1 (List.mem_of_getElem? (i := 0) rfl)) x1 x2 x3 ?_
                                  refine lv_astore (lv' := [(6, .ref q9), (0, .ref (ad 0 0)), (1, .int 13), (2, .int xm), (3, .int xw), (4, .int y2), (5, .int y3)]) hx hb dL_does_292 hl (by decide) rfl (fun ls hl => ?_)
                                  refine lv_ldc (v := (-2000000)) hx hb Z.1.2.2.2.1 (Z.1.2.2.2.2 _ (inU_1 _ (List.mem_of_getElem? (i := 4) rfl))) dL_does_294 ?_
                                  exact vx_ret (k_iret Z X hr hlocks rfl (Nat.le_of_ble_eq_true rfl) (Nat.le_of_ble_eq_true rfl) dL_does_296 ⟨rfl, Or.inr (Or.inr (Or.inl ⟨hk, rfl, rfl⟩))⟩)
                              obtain ⟨⟨hk, rfl⟩, ha_, hb_⟩ := hp
                              rw [← ha_, hb_] at X
                              refine lv_goto (tgt := 286) hx hb dL_does_214 (by decide) ?_
                              exact vx_ret (k_iret Z X hr hlocks rfl (Nat.le_of_ble_eq_true rfl) (Nat.le_of_ble_eq_true rfl) dL_does_286 ⟨rfl, Or.inl ⟨hk, rfl, _, rfl, rfl⟩⟩)
                          · exact absurd c_191 (by decide)
                        · exact absurd c_177 (by decide)
                      · exact absurd c_155 (by decide)
                    · exact absurd c_140 (by decide)
                  · exact absurd c_121 (by decide)
                · exact absurd c_104 (by decide)
              · exact absurd c_87 (by decide)
            · exact absurd c_72 (by decide)
          · exact absurd c_56 (by decide)
        · exact absurd c_42 (by decide)
      · exact absurd c_28 (by decide)
    · exact absurd c_14 (by decide)
  · exact absurd c_1 (by decide)
set_option maxHeartbeats 4000000 in
set_option maxRecDepth 100000 in
theorem c_L_does_14 (l : Launch) (E : State) (G : kG) (S T : kSt) (o : Int64) (ad : kAd) (xm xa y3 : Int32) (hE : kE l E G) (hS : okN S) (hL : okL S) (hK9 : okK S) (hG : okLg S) (hRp : ∀ m, m < S.2 0 1 → ∀ u, u < 12 → rpl S m (S.1 18) (S.2 0 4) u = kdS S m u) : vx_Met l yL_does (.codeWith yL_does cL_does 7 (some .int) [(0, 286, 287, 70), (0, 286, 292, 73), (0, 286, 297, 76)] :: wsL_law) ({ frames := 16, cells := 2, slots := 12, locals := 460 } : Room) (va_Pc [.ref (ad 0 0), .int 14, .int xm, .int xa, .int 0, .int y3] (kPre E G ad (cto G S T o ad))) (kQi E G (fun r ad1 ct1 => kDP G S T o (ad = ad1) (cAppr S xm xa) (-3000000) (-2000000) 0 (bI (rAprC S xm xa 0)) (fun S1 => S1 = oAprC S xm 0) r ad1 ct1)) (kXC E G (fun _ _ _ => False)) 2 12 (kB E.heap.size) := by
  refine vx_ofWH (cc := cL_does) (maxL := 7) (ret := (some .int)) (by decide) rfl ?_
  intro p e s m args below meth c s₁ B hml hv
  obtain ⟨rfl, hM, hK, hW0⟩ := hv
  have hlocks := B.notSynchronized
  have hr := B.returns
  have Z : kZ p m c cL_does 7 s _ wsL_law RL E G := ⟨⟨B.exec, B.bytes, hml, findClass_of_methodNamed B.named, fun w h => atoms_spec (ws := .codeWith yL_does cL_does 7 (some .int) [(0, 286, 287, 70), (0, 286, 292, 73), (0, 286, 297, 76)] :: wsL_law) B.pre w (List.mem_cons_of_mem _ h)⟩, hM, hK⟩
  have hx := Z.1.1
  have hb := Z.1.2.1
  have X := kX.of hW0
  have hl := lv_entry ([.ref (ad 0 0), .int 14, .int xm, .int xa, .int 0, .int y3]) (n := 7) (Nat.le_of_ble_eq_true rfl)
  rw [lg_entry_eq]
  generalize (lg_sl ([.ref (ad 0 0), .int 14, .int xm, .int xa, .int 0, .int y3]) ++ List.replicate (7 - (lg_sl ([.ref (ad 0 0), .int 14, .int xm, .int xa, .int 0, .int y3])).length) Slot.unset).toArray = ls at hl ⊢
  have hl : lv_has ls 7 [(0, .ref (ad 0 0)), (1, .int 14), (2, .int xm), (3, .int xa), (4, .int 0), (5, .int y3)] := hl
  have htab := vx_table (x := yL_does) B (atoms_spec (ws := .codeWith yL_does cL_does 7 (some .int) [(0, 286, 287, 70), (0, 286, 292, 73), (0, 286, 297, 76)] :: wsL_law) B.pre _ List.mem_cons_self)
  refine lv_iload_n hx hb dL_does_0 rfl (lv_at hl 1 rfl) ?_
  refine lv_if_ne (tgt := 12) hx hb dL_does_1 (by decide) (fun c_1 => ?_) (fun c_1 => ?_)
  · refine lv_iload_n hx hb dL_does_12 rfl (lv_at hl 1 rfl) ?_
    refine lv_iconst (v := 1) hx hb dL_does_13 (by decide) ?_
    refine lv_icmp_ne (tgt := 26) hx hb dL_does_14 (by decide) (fun c_14 => ?_) (fun c_14 => ?_)
    · refine lv_iload_n hx hb dL_does_26 rfl (lv_at hl 1 rfl) ?_
      refine lv_iconst (v := 2) hx hb dL_does_27 (by decide) ?_
      refine lv_icmp_ne (tgt := 40) hx hb dL_does_28 (by decide) (fun c_28 => ?_) (fun c_28 => ?_)
      · refine lv_iload_n hx hb dL_does_40 rfl (lv_at hl 1 rfl) ?_
        refine lv_iconst (v := 3) hx hb dL_does_41 (by decide) ?_
        refine lv_icmp_ne (tgt := 54) hx hb dL_does_42 (by decide) (fun c_42 => ?_) (fun c_42 => ?_)
        · refine lv_iload_n hx hb dL_does_54 rfl (lv_at hl 1 rfl) ?_
          refine lv_iconst (v := 4) hx hb dL_does_55 (by decide) ?_
          refine lv_icmp_ne (tgt := 70) hx hb dL_does_56 (by decide) (fun c_56 => ?_) (fun c_56 => ?_)
          · refine lv_iload_n hx hb dL_does_70 rfl (lv_at hl 1 rfl) ?_
            refine lv_iconst (v := 5) hx hb dL_does_71 (by decide) ?_
            refine lv_icmp_ne (tgt := 84) hx hb dL_does_72 (by decide) (fun c_72 => ?_) (fun c_72 => ?_)
            · refine lv_iload_n hx hb dL_does_84 rfl (lv_at hl 1 rfl) ?_
              refine lv_bipush (v := 6) hx hb dL_does_85 (by decide) ?_
              refine lv_icmp_ne (tgt := 101) hx hb dL_does_87 (by decide) (fun c_87 => ?_) (fun c_87 => ?_)
              · refine lv_iload_n hx hb dL_does_101 rfl (lv_at hl 1 rfl) ?_
                refine lv_bipush (v := 7) hx hb dL_does_102 (by decide) ?_
                refine lv_icmp_ne (tgt := 118) hx hb dL_does_104 (by decide) (fun c_104 => ?_) (fun c_104 => ?_)
                · refine lv_iload_n hx hb dL_does_118 rfl (lv_at hl 1 rfl) ?_
                  refine lv_bipush (v := 8) hx hb dL_does_119 (by decide) ?_
                  refine lv_icmp_ne (tgt := 137) hx hb dL_does_121 (by decide) (fun c_121 => ?_) (fun c_121 => ?_)
                  · refine lv_iload_n hx hb dL_does_137 rfl (lv_at hl 1 rfl) ?_
                    refine lv_bipush (v := 9) hx hb dL_does_138 (by decide) ?_
                    refine lv_icmp_ne (tgt := 152) hx hb dL_does_140 (by decide) (fun c_140 => ?_) (fun c_140 => ?_)
                    · refine lv_iload_n hx hb dL_does_152 rfl (lv_at hl 1 rfl) ?_
                      refine lv_bipush (v := 10) hx hb dL_does_153 (by decide) ?_
                      refine lv_icmp_ne (tgt := 174) hx hb dL_does_155 (by decide) (fun c_155 => ?_) (fun c_155 => ?_)
                      · refine lv_iload_n hx hb dL_does_174 rfl (lv_at hl 1 rfl) ?_
                        refine lv_bipush (v := 11) hx hb dL_does_175 (by decide) ?_
                        refine lv_icmp_ne (tgt := 188) hx hb dL_does_177 (by decide) (fun c_177 => ?_) (fun c_177 => ?_)
                        · refine lv_iload_n hx hb dL_does_188 rfl (lv_at hl 1 rfl) ?_
                          refine lv_bipush (v := 12) hx hb dL_does_189 (by decide) ?_
                          refine lv_icmp_ne (tgt := 202) hx hb dL_does_191 (by decide) (fun c_191 => ?_) (fun c_191 => ?_)
                          · refine lv_iload_n hx hb dL_does_202 rfl (lv_at hl 1 rfl) ?_
                            refine lv_bipush (v := 13) hx hb dL_does_203 (by decide) ?_
                            refine lv_icmp_ne (tgt := 217) hx hb dL_does_205 (by decide) (fun c_205 => ?_) (fun c_205 => ?_)
                            · refine lv_iload_n hx hb dL_does_217 rfl (lv_at hl 1 rfl) ?_
                              refine lv_bipush (v := 14) hx hb dL_does_218 (by decide) ?_
                              refine lv_icmp_ne (tgt := 251) hx hb dL_does_220 (by decide) (fun c_220 => ?_) (fun c_220 => ?_)
                              · exact absurd c_220 (by decide)
                              · refine lv_aload_n hx hb dL_does_223 rfl (lv_at hl 0 rfl) ?_
                                refine lv_iload_n hx hb dL_does_224 rfl (lv_at hl 2 rfl) ?_
                                refine lv_iload_n hx hb dL_does_225 rfl (lv_at hl 3 rfl) ?_
                                refine lv_iload hx hb dL_does_226 (lv_at hl 4 rfl) ?_
                                refine lv_iconst (v := 1) hx hb dL_does_228 (by decide) ?_
                                refine lv_icmp_ne (tgt := 236) hx hb dL_does_229 (by decide) (fun c_229 => ?_) (fun c_229 => ?_)
                                · refine lv_iconst (v := 0) hx hb dL_does_236 (by decide) ?_
                                  refine k_xRi X (k_xrunV (As := [.int xm, .int xa, .int 0]) (rest := []) Z X (c_X7_isApproved l E G S T o ad xm xa 0 hE hS hL hK9 hG hRp) (k_cwV 3 Z.1.2.2.2.2 (inU_25 _ (List.mem_of_getElem? (i := 12) rfl)) (inU_25 _ (List.mem_of_getElem? (i := 13) rfl)) (inU_25 _ (List.mem_of_getElem? (i := 14) rfl)) (inU_1 _ (List.mem_of_getElem? (i := 2) rfl)) (inU_25 _ (List.mem_of_getElem? (i := 15) rfl)) rfl rfl (by decide +kernel) ⟨Nat.le_of_ble_eq_true rfl, Nat.le_of_ble_eq_true rfl⟩) (k_recv Z X ct_0 rfl) rfl hl.1 rfl (Nat.le_of_ble_eq_true rfl) dL_does_237 ⟨(Nat.le_of_ble_eq_true rfl), (Nat.le_of_ble_eq_true rfl)⟩) (fun x ce q9 ad1 ct1 H locs hp X x1 x2 x3 => ?_) (fun r_237 ad1 ct1 H locs hp X => ?_)
                                  · obtain ⟨hq, ha_, hb_⟩ := hp
                                    rw [← ha_, hb_] at X
                                    rcases hq with ⟨hk, rfl⟩ | ⟨hk, rfl⟩
                                    · refine vx_catch (own := RL) (name := "java/lang/IndexOutOfBoundsException") (E := "java/lang/IndexOutOfBoundsException") Z.1.2.2.2.1 [] ⟨0, 286, 287, 70⟩ [⟨0, 286, 292, 73⟩, ⟨0, 286, 297, 76⟩] (htab.trans rfl) (fun z hz => nomatch hz) rfl (by decide) (Z.1.2.2.2.2 _ (inU_6 _ (List.mem_of_getElem? (i := 7) rfl))) (hE.word Z.2.1 (List.mem_of_getElem? (i := 2) rfl)) x1 x2 x3 ?_
                                      refine lv_astore (lv' := [(6, .ref q9), (0, .ref (ad 0 0)), (1, .int 14), (2, .int xm), (3, .int xa), (4, .int 0), (5, .int y3)]) hx hb dL_does_287 hl (by decide) rfl (fun ls hl => ?_)
                                      refine lv_ldc (v := (-3000000)) hx hb Z.1.2.2.2.1 (Z.1.2.2.2.2 _ (inU_1 _ (List.mem_of_getElem? (i := 5) rfl))) dL_does_289 ?_
                                      exact vx_ret (k_iret Z X hr hlocks rfl (Nat.le_of_ble_eq_true rfl) (Nat.le_of_ble_eq_true rfl) dL_does_291 ⟨rfl, Or.inr (Or.inl ⟨hk, rfl, rfl⟩)⟩)
                                    · refine vx_catch (own := RL) (name := "java/lang/IllegalArgumentException") (E := "java/lang/IllegalArgumentException") Z.1.2.2.2.1 [⟨0, 286, 287, 70⟩] ⟨0, 286, 292, 73⟩ [⟨0, 286, 297, 76⟩] (htab.trans rfl) (by intro z hz; simp only [List.mem_cons, List.not_mem_nil, or_false] at hz; rcases hz with rfl; exact Or.inr ⟨by decide, _, (Z.1.2.2.2.2 _ (inU_6 _ (List.mem_of_getElem? (i := 7) rfl))), hE.nc Z.2.1 (by decide)⟩) rfl (by decide) (hE.word Z.2.1 (List.mem_of_getElem? (i := 14) rfl)) (hE.word Z.2.1 (List.mem_of_getElem? (i := 0) rfl)) x1 x2 x3 ?_
                                      refine lv_astore (lv' := [(6, .ref q9), (0, .ref (ad 0 0)), (1, .int 14), (2, .int xm), (3, .int xa), (4, .int 0), (5, .int y3)]) hx hb dL_does_292 hl (by decide) rfl (fun ls hl => ?_)
                                      refine lv_ldc (v := (-2000000)) hx hb Z.1.2.2.2.1 (Z.1.2.2.2.2 _ (inU_1 _ (List.mem_of_getElem? (i := 4) rfl))) dL_does_294 ?_
                                      exact vx_ret (k_iret Z X hr hlocks rfl (Nat.le_of_ble_eq_true rfl) (Nat.le_of_ble_eq_true rfl) dL_does_296 ⟨rfl, Or.inr (Or.inr (Or.inl ⟨hk, rfl, rfl⟩))⟩)
                                  obtain ⟨⟨hk, rfl⟩, ha_, hb_⟩ := hp
                                  rw [← ha_, hb_] at X
                                  refine lv_if_eq (tgt := 247) hx hb dL_does_240 (by decide) (fun c_240 => ?_) (fun c_240 => ?_)
                                  · have c_240 : (rAprC S xm xa 0) = false := bI_0 c_240
                                    refine lv_iconst (v := 0) hx hb dL_does_247 (by decide) ?_
                                    refine lv_goto (tgt := 286) hx hb dL_does_248 (by decide) ?_
                                    exact vx_ret (k_iret Z X hr hlocks rfl (Nat.le_of_ble_eq_true rfl) (Nat.le_of_ble_eq_true rfl) dL_does_286 ⟨rfl, Or.inl ⟨hk, bI_f c_240, _, rfl, rfl⟩⟩)
                                  · have c_240 : (rAprC S xm xa 0) = true := bI_1 c_240
                                    refine lv_iconst (v := 1) hx hb dL_does_243 (by decide) ?_
                                    refine lv_goto (tgt := 286) hx hb dL_does_244 (by decide) ?_
                                    exact vx_ret (k_iret Z X hr hlocks rfl (Nat.le_of_ble_eq_true rfl) (Nat.le_of_ble_eq_true rfl) dL_does_286 ⟨rfl, Or.inl ⟨hk, bI_t c_240, _, rfl, rfl⟩⟩)
                                · exact absurd c_229 (by decide)
                            · exact absurd c_205 (by decide)
                          · exact absurd c_191 (by decide)
                        · exact absurd c_177 (by decide)
                      · exact absurd c_155 (by decide)
                    · exact absurd c_140 (by decide)
                  · exact absurd c_121 (by decide)
                · exact absurd c_104 (by decide)
              · exact absurd c_87 (by decide)
            · exact absurd c_72 (by decide)
          · exact absurd c_56 (by decide)
        · exact absurd c_42 (by decide)
      · exact absurd c_28 (by decide)
    · exact absurd c_14 (by decide)
  · exact absurd c_1 (by decide)
set_option maxHeartbeats 4000000 in
set_option maxRecDepth 100000 in
theorem c_L_does_15 (l : Launch) (E : State) (G : kG) (S T : kSt) (o : Int64) (ad : kAd) (xs xw y2 y3 : Int32) (hE : kE l E G) (hS : okN S) (hL : okL S) : vx_Met l yL_does (.codeWith yL_does cL_does 7 (some .int) [(0, 286, 287, 70), (0, 286, 292, 73), (0, 286, 297, 76)] :: wsL_law) ({ frames := 16, cells := 2, slots := 12, locals := 460 } : Room) (va_Pc [.ref (ad 0 0), .int 15, .int xs, .int xw, .int y2, .int y3] (kPre E G ad (cto G S T o ad))) (kQi E G (fun r ad1 ct1 => kDP G S T o (ad = ad1) (cSpOf S xs xw) (-3000000) (-2000000) 0 (rSpOf S xs xw) (fun S1 => S1 = S) r ad1 ct1)) (kXC E G (fun _ _ _ => False)) 2 12 (kB E.heap.size) := by
  refine vx_ofWH (cc := cL_does) (maxL := 7) (ret := (some .int)) (by decide) rfl ?_
  intro p e s m args below meth c s₁ B hml hv
  obtain ⟨rfl, hM, hK, hW0⟩ := hv
  have hlocks := B.notSynchronized
  have hr := B.returns
  have Z : kZ p m c cL_does 7 s _ wsL_law RL E G := ⟨⟨B.exec, B.bytes, hml, findClass_of_methodNamed B.named, fun w h => atoms_spec (ws := .codeWith yL_does cL_does 7 (some .int) [(0, 286, 287, 70), (0, 286, 292, 73), (0, 286, 297, 76)] :: wsL_law) B.pre w (List.mem_cons_of_mem _ h)⟩, hM, hK⟩
  have hx := Z.1.1
  have hb := Z.1.2.1
  have X := kX.of hW0
  have hl := lv_entry ([.ref (ad 0 0), .int 15, .int xs, .int xw, .int y2, .int y3]) (n := 7) (Nat.le_of_ble_eq_true rfl)
  rw [lg_entry_eq]
  generalize (lg_sl ([.ref (ad 0 0), .int 15, .int xs, .int xw, .int y2, .int y3]) ++ List.replicate (7 - (lg_sl ([.ref (ad 0 0), .int 15, .int xs, .int xw, .int y2, .int y3])).length) Slot.unset).toArray = ls at hl ⊢
  have hl : lv_has ls 7 [(0, .ref (ad 0 0)), (1, .int 15), (2, .int xs), (3, .int xw), (4, .int y2), (5, .int y3)] := hl
  have htab := vx_table (x := yL_does) B (atoms_spec (ws := .codeWith yL_does cL_does 7 (some .int) [(0, 286, 287, 70), (0, 286, 292, 73), (0, 286, 297, 76)] :: wsL_law) B.pre _ List.mem_cons_self)
  refine lv_iload_n hx hb dL_does_0 rfl (lv_at hl 1 rfl) ?_
  refine lv_if_ne (tgt := 12) hx hb dL_does_1 (by decide) (fun c_1 => ?_) (fun c_1 => ?_)
  · refine lv_iload_n hx hb dL_does_12 rfl (lv_at hl 1 rfl) ?_
    refine lv_iconst (v := 1) hx hb dL_does_13 (by decide) ?_
    refine lv_icmp_ne (tgt := 26) hx hb dL_does_14 (by decide) (fun c_14 => ?_) (fun c_14 => ?_)
    · refine lv_iload_n hx hb dL_does_26 rfl (lv_at hl 1 rfl) ?_
      refine lv_iconst (v := 2) hx hb dL_does_27 (by decide) ?_
      refine lv_icmp_ne (tgt := 40) hx hb dL_does_28 (by decide) (fun c_28 => ?_) (fun c_28 => ?_)
      · refine lv_iload_n hx hb dL_does_40 rfl (lv_at hl 1 rfl) ?_
        refine lv_iconst (v := 3) hx hb dL_does_41 (by decide) ?_
        refine lv_icmp_ne (tgt := 54) hx hb dL_does_42 (by decide) (fun c_42 => ?_) (fun c_42 => ?_)
        · refine lv_iload_n hx hb dL_does_54 rfl (lv_at hl 1 rfl) ?_
          refine lv_iconst (v := 4) hx hb dL_does_55 (by decide) ?_
          refine lv_icmp_ne (tgt := 70) hx hb dL_does_56 (by decide) (fun c_56 => ?_) (fun c_56 => ?_)
          · refine lv_iload_n hx hb dL_does_70 rfl (lv_at hl 1 rfl) ?_
            refine lv_iconst (v := 5) hx hb dL_does_71 (by decide) ?_
            refine lv_icmp_ne (tgt := 84) hx hb dL_does_72 (by decide) (fun c_72 => ?_) (fun c_72 => ?_)
            · refine lv_iload_n hx hb dL_does_84 rfl (lv_at hl 1 rfl) ?_
              refine lv_bipush (v := 6) hx hb dL_does_85 (by decide) ?_
              refine lv_icmp_ne (tgt := 101) hx hb dL_does_87 (by decide) (fun c_87 => ?_) (fun c_87 => ?_)
              · refine lv_iload_n hx hb dL_does_101 rfl (lv_at hl 1 rfl) ?_
                refine lv_bipush (v := 7) hx hb dL_does_102 (by decide) ?_
                refine lv_icmp_ne (tgt := 118) hx hb dL_does_104 (by decide) (fun c_104 => ?_) (fun c_104 => ?_)
                · refine lv_iload_n hx hb dL_does_118 rfl (lv_at hl 1 rfl) ?_
                  refine lv_bipush (v := 8) hx hb dL_does_119 (by decide) ?_
                  refine lv_icmp_ne (tgt := 137) hx hb dL_does_121 (by decide) (fun c_121 => ?_) (fun c_121 => ?_)
                  · refine lv_iload_n hx hb dL_does_137 rfl (lv_at hl 1 rfl) ?_
                    refine lv_bipush (v := 9) hx hb dL_does_138 (by decide) ?_
                    refine lv_icmp_ne (tgt := 152) hx hb dL_does_140 (by decide) (fun c_140 => ?_) (fun c_140 => ?_)
                    · refine lv_iload_n hx hb dL_does_152 rfl (lv_at hl 1 rfl) ?_
                      refine lv_bipush (v := 10) hx hb dL_does_153 (by decide) ?_
                      refine lv_icmp_ne (tgt := 174) hx hb dL_does_155 (by decide) (fun c_155 => ?_) (fun c_155 => ?_)
                      · refine lv_iload_n hx hb dL_does_174 rfl (lv_at hl 1 rfl) ?_
                        refine lv_bipush (v := 11) hx hb dL_does_175 (by decide) ?_
                        refine lv_icmp_ne (tgt := 188) hx hb dL_does_177 (by decide) (fun c_177 => ?_) (fun c_177 => ?_)
                        · refine lv_iload_n hx hb dL_does_188 rfl (lv_at hl 1 rfl) ?_
                          refine lv_bipush (v := 12) hx hb dL_does_189 (by decide) ?_
                          refine lv_icmp_ne (tgt := 202) hx hb dL_does_191 (by decide) (fun c_191 => ?_) (fun c_191 => ?_)
                          · refine lv_iload_n hx hb dL_does_202 rfl (lv_at hl 1 rfl) ?_
                            refine lv_bipush (v := 13) hx hb dL_does_203 (by decide) ?_
                            refine lv_icmp_ne (tgt := 217) hx hb dL_does_205 (by decide) (fun c_205 => ?_) (fun c_205 => ?_)
                            · refine lv_iload_n hx hb dL_does_217 rfl (lv_at hl 1 rfl) ?_
                              refine lv_bipush (v := 14) hx hb dL_does_218 (by decide) ?_
                              refine lv_icmp_ne (tgt := 251) hx hb dL_does_220 (by decide) (fun c_220 => ?_) (fun c_220 => ?_)
                              · refine lv_iload_n hx hb dL_does_251 rfl (lv_at hl 1 rfl) ?_
                                refine lv_bipush (v := 15) hx hb dL_does_252 (by decide) ?_
                                refine lv_icmp_ne (tgt := 266) hx hb dL_does_254 (by decide) (fun c_254 => ?_) (fun c_254 => ?_)
                                · exact absurd c_254 (by decide)
                                · refine lv_aload_n hx hb dL_does_257 rfl (lv_at hl 0 rfl) ?_
                                  refine lv_iload_n hx hb dL_does_258 rfl (lv_at hl 2 rfl) ?_
                                  refine lv_iload_n hx hb dL_does_259 rfl (lv_at hl 3 rfl) ?_
                                  refine k_xRi X (k_xrunV (As := [.int xs, .int xw]) (rest := []) Z X (c_X7_spendOf l E G S T o ad xs xw hE hS hL) (k_cwV 2 Z.1.2.2.2.2 (inU_25 _ (List.mem_of_getElem? (i := 22) rfl)) (inU_25 _ (List.mem_of_getElem? (i := 23) rfl)) (inU_26 _ (List.mem_of_getElem? (i := 0) rfl)) (inU_1 _ (List.mem_of_getElem? (i := 2) rfl)) (inU_26 _ (List.mem_of_getElem? (i := 1) rfl)) rfl rfl (by decide +kernel) ⟨Nat.le_of_ble_eq_true rfl, Nat.le_of_ble_eq_true rfl⟩) (k_recv Z X ct_0 rfl) rfl hl.1 rfl (Nat.le_of_ble_eq_true rfl) dL_does_260 ⟨(Nat.le_of_ble_eq_true rfl), (Nat.le_of_ble_eq_true rfl)⟩) (fun x ce q9 ad1 ct1 H locs hp X x1 x2 x3 => ?_) (fun r_260 ad1 ct1 H locs hp X => ?_)
                                  · obtain ⟨hq, ha_, hb_⟩ := hp
                                    rw [← ha_, hb_] at X
                                    rcases hq with ⟨hk, rfl⟩ | ⟨hk, rfl⟩
                                    · refine vx_catch (own := RL) (name := "java/lang/IndexOutOfBoundsException") (E := "java/lang/IndexOutOfBoundsException") Z.1.2.2.2.1 [] ⟨0, 286, 287, 70⟩ [⟨0, 286, 292, 73⟩, ⟨0, 286, 297, 76⟩] (htab.trans rfl) (fun z hz => nomatch hz) rfl (by decide) (Z.1.2.2.2.2 _ (inU_6 _ (List.mem_of_getElem? (i := 7) rfl))) (hE.word Z.2.1 (List.mem_of_getElem? (i := 2) rfl)) x1 x2 x3 ?_
                                      refine lv_astore (lv' := [(6, .ref q9), (0, .ref (ad 0 0)), (1, .int 15), (2, .int xs), (3, .int xw), (4, .int y2), (5, .int y3)]) hx hb dL_does_287 hl (by decide) rfl (fun ls hl => ?_)
                                      refine lv_ldc (v := (-3000000)) hx hb Z.1.2.2.2.1 (Z.1.2.2.2.2 _ (inU_1 _ (List.mem_of_getElem? (i := 5) rfl))) dL_does_289 ?_
                                      exact vx_ret (k_iret Z X hr hlocks rfl (Nat.le_of_ble_eq_true rfl) (Nat.le_of_ble_eq_true rfl) dL_does_291 ⟨rfl, Or.inr (Or.inl ⟨hk, rfl, rfl⟩)⟩)
                                    · refine vx_catch (own := RL) (name := "java/lang/IllegalArgumentException") (E := "java/lang/IllegalArgumentException") Z.1.2.2.2.1 [⟨0, 286, 287, 70⟩] ⟨0, 286, 292, 73⟩ [⟨0, 286, 297, 76⟩] (htab.trans rfl) (by intro z hz; simp only [List.mem_cons, List.not_mem_nil, or_false] at hz; rcases hz with rfl; exact Or.inr ⟨by decide, _, (Z.1.2.2.2.2 _ (inU_6 _ (List.mem_of_getElem? (i := 7) rfl))), hE.nc Z.2.1 (by decide)⟩) rfl (by decide) (hE.word Z.2.1 (List.mem_of_getElem? (i := 14) rfl)) (hE.word Z.2.1 (List.mem_of_getElem? (i := 0) rfl)) x1 x2 x3 ?_
                                      refine lv_astore (lv' := [(6, .ref q9), (0, .ref (ad 0 0)), (1, .int 15), (2, .int xs), (3, .int xw), (4, .int y2), (5, .int y3)]) hx hb dL_does_292 hl (by decide) rfl (fun ls hl => ?_)
                                      refine lv_ldc (v := (-2000000)) hx hb Z.1.2.2.2.1 (Z.1.2.2.2.2 _ (inU_1 _ (List.mem_of_getElem? (i := 4) rfl))) dL_does_294 ?_
                                      exact vx_ret (k_iret Z X hr hlocks rfl (Nat.le_of_ble_eq_true rfl) (Nat.le_of_ble_eq_true rfl) dL_does_296 ⟨rfl, Or.inr (Or.inr (Or.inl ⟨hk, rfl, rfl⟩))⟩)
                                  obtain ⟨⟨hk, rfl⟩, ha_, hb_⟩ := hp
                                  rw [← ha_, hb_] at X
                                  refine lv_goto (tgt := 286) hx hb dL_does_263 (by decide) ?_
                                  exact vx_ret (k_iret Z X hr hlocks rfl (Nat.le_of_ble_eq_true rfl) (Nat.le_of_ble_eq_true rfl) dL_does_286 ⟨rfl, Or.inl ⟨hk, rfl, _, rfl, rfl⟩⟩)
                              · exact absurd c_220 (by decide)
                            · exact absurd c_205 (by decide)
                          · exact absurd c_191 (by decide)
                        · exact absurd c_177 (by decide)
                      · exact absurd c_155 (by decide)
                    · exact absurd c_140 (by decide)
                  · exact absurd c_121 (by decide)
                · exact absurd c_104 (by decide)
              · exact absurd c_87 (by decide)
            · exact absurd c_72 (by decide)
          · exact absurd c_56 (by decide)
        · exact absurd c_42 (by decide)
      · exact absurd c_28 (by decide)
    · exact absurd c_14 (by decide)
  · exact absurd c_1 (by decide)
set_option maxHeartbeats 4000000 in
set_option maxRecDepth 100000 in
theorem c_L_does_16 (l : Launch) (E : State) (G : kG) (S T : kSt) (o : Int64) (ad : kAd) (xu xr y2 y3 : Int32) (hE : kE l E G) (hS : okN S) (hL : okL S) : vx_Met l yL_does (.codeWith yL_does cL_does 7 (some .int) [(0, 286, 287, 70), (0, 286, 292, 73), (0, 286, 297, 76)] :: wsL_law) ({ frames := 16, cells := 2, slots := 12, locals := 460 } : Room) (va_Pc [.ref (ad 0 0), .int 16, .int xu, .int xr, .int y2, .int y3] (kPre E G ad (cto G S T o ad))) (kQi E G (fun r ad1 ct1 => kDP G S T o (ad = ad1) (cNext S xu xr) (-3000000) 0 0 (nxtC S (cl xu) xr (S.2 0 3)) (fun S1 => S1 = S) r ad1 ct1)) (kXC E G (fun _ _ _ => False)) 2 12 (kB E.heap.size) := by
  refine vx_ofWH (cc := cL_does) (maxL := 7) (ret := (some .int)) (by decide) rfl ?_
  intro p e s m args below meth c s₁ B hml hv
  obtain ⟨rfl, hM, hK, hW0⟩ := hv
  have hlocks := B.notSynchronized
  have hr := B.returns
  have Z : kZ p m c cL_does 7 s _ wsL_law RL E G := ⟨⟨B.exec, B.bytes, hml, findClass_of_methodNamed B.named, fun w h => atoms_spec (ws := .codeWith yL_does cL_does 7 (some .int) [(0, 286, 287, 70), (0, 286, 292, 73), (0, 286, 297, 76)] :: wsL_law) B.pre w (List.mem_cons_of_mem _ h)⟩, hM, hK⟩
  have hx := Z.1.1
  have hb := Z.1.2.1
  have X := kX.of hW0
  have hl := lv_entry ([.ref (ad 0 0), .int 16, .int xu, .int xr, .int y2, .int y3]) (n := 7) (Nat.le_of_ble_eq_true rfl)
  rw [lg_entry_eq]
  generalize (lg_sl ([.ref (ad 0 0), .int 16, .int xu, .int xr, .int y2, .int y3]) ++ List.replicate (7 - (lg_sl ([.ref (ad 0 0), .int 16, .int xu, .int xr, .int y2, .int y3])).length) Slot.unset).toArray = ls at hl ⊢
  have hl : lv_has ls 7 [(0, .ref (ad 0 0)), (1, .int 16), (2, .int xu), (3, .int xr), (4, .int y2), (5, .int y3)] := hl
  have htab := vx_table (x := yL_does) B (atoms_spec (ws := .codeWith yL_does cL_does 7 (some .int) [(0, 286, 287, 70), (0, 286, 292, 73), (0, 286, 297, 76)] :: wsL_law) B.pre _ List.mem_cons_self)
  refine lv_iload_n hx hb dL_does_0 rfl (lv_at hl 1 rfl) ?_
  refine lv_if_ne (tgt := 12) hx hb dL_does_1 (by decide) (fun c_1 => ?_) (fun c_1 => ?_)
  · refine lv_iload_n hx hb dL_does_12 rfl (lv_at hl 1 rfl) ?_
    refine lv_iconst (v := 1) hx hb dL_does_13 (by decide) ?_
    refine lv_icmp_ne (tgt := 26) hx hb dL_does_14 (by decide) (fun c_14 => ?_) (fun c_14 => ?_)
    · refine lv_iload_n hx hb dL_does_26 rfl (lv_at hl 1 rfl) ?_
      refine lv_iconst (v := 2) hx hb dL_does_27 (by decide) ?_
      refine lv_icmp_ne (tgt := 40) hx hb dL_does_28 (by decide) (fun c_28 => ?_) (fun c_28 => ?_)
      · refine lv_iload_n hx hb dL_does_40 rfl (lv_at hl 1 rfl) ?_
        refine lv_iconst (v := 3) hx hb dL_does_41 (by decide) ?_
        refine lv_icmp_ne (tgt := 54) hx hb dL_does_42 (by decide) (fun c_42 => ?_) (fun c_42 => ?_)
        · refine lv_iload_n hx hb dL_does_54 rfl (lv_at hl 1 rfl) ?_
          refine lv_iconst (v := 4) hx hb dL_does_55 (by decide) ?_
          refine lv_icmp_ne (tgt := 70) hx hb dL_does_56 (by decide) (fun c_56 => ?_) (fun c_56 => ?_)
          · refine lv_iload_n hx hb dL_does_70 rfl (lv_at hl 1 rfl) ?_
            refine lv_iconst (v := 5) hx hb dL_does_71 (by decide) ?_
            refine lv_icmp_ne (tgt := 84) hx hb dL_does_72 (by decide) (fun c_72 => ?_) (fun c_72 => ?_)
            · refine lv_iload_n hx hb dL_does_84 rfl (lv_at hl 1 rfl) ?_
              refine lv_bipush (v := 6) hx hb dL_does_85 (by decide) ?_
              refine lv_icmp_ne (tgt := 101) hx hb dL_does_87 (by decide) (fun c_87 => ?_) (fun c_87 => ?_)
              · refine lv_iload_n hx hb dL_does_101 rfl (lv_at hl 1 rfl) ?_
                refine lv_bipush (v := 7) hx hb dL_does_102 (by decide) ?_
                refine lv_icmp_ne (tgt := 118) hx hb dL_does_104 (by decide) (fun c_104 => ?_) (fun c_104 => ?_)
                · refine lv_iload_n hx hb dL_does_118 rfl (lv_at hl 1 rfl) ?_
                  refine lv_bipush (v := 8) hx hb dL_does_119 (by decide) ?_
                  refine lv_icmp_ne (tgt := 137) hx hb dL_does_121 (by decide) (fun c_121 => ?_) (fun c_121 => ?_)
                  · refine lv_iload_n hx hb dL_does_137 rfl (lv_at hl 1 rfl) ?_
                    refine lv_bipush (v := 9) hx hb dL_does_138 (by decide) ?_
                    refine lv_icmp_ne (tgt := 152) hx hb dL_does_140 (by decide) (fun c_140 => ?_) (fun c_140 => ?_)
                    · refine lv_iload_n hx hb dL_does_152 rfl (lv_at hl 1 rfl) ?_
                      refine lv_bipush (v := 10) hx hb dL_does_153 (by decide) ?_
                      refine lv_icmp_ne (tgt := 174) hx hb dL_does_155 (by decide) (fun c_155 => ?_) (fun c_155 => ?_)
                      · refine lv_iload_n hx hb dL_does_174 rfl (lv_at hl 1 rfl) ?_
                        refine lv_bipush (v := 11) hx hb dL_does_175 (by decide) ?_
                        refine lv_icmp_ne (tgt := 188) hx hb dL_does_177 (by decide) (fun c_177 => ?_) (fun c_177 => ?_)
                        · refine lv_iload_n hx hb dL_does_188 rfl (lv_at hl 1 rfl) ?_
                          refine lv_bipush (v := 12) hx hb dL_does_189 (by decide) ?_
                          refine lv_icmp_ne (tgt := 202) hx hb dL_does_191 (by decide) (fun c_191 => ?_) (fun c_191 => ?_)
                          · refine lv_iload_n hx hb dL_does_202 rfl (lv_at hl 1 rfl) ?_
                            refine lv_bipush (v := 13) hx hb dL_does_203 (by decide) ?_
                            refine lv_icmp_ne (tgt := 217) hx hb dL_does_205 (by decide) (fun c_205 => ?_) (fun c_205 => ?_)
                            · refine lv_iload_n hx hb dL_does_217 rfl (lv_at hl 1 rfl) ?_
                              refine lv_bipush (v := 14) hx hb dL_does_218 (by decide) ?_
                              refine lv_icmp_ne (tgt := 251) hx hb dL_does_220 (by decide) (fun c_220 => ?_) (fun c_220 => ?_)
                              · refine lv_iload_n hx hb dL_does_251 rfl (lv_at hl 1 rfl) ?_
                                refine lv_bipush (v := 15) hx hb dL_does_252 (by decide) ?_
                                refine lv_icmp_ne (tgt := 266) hx hb dL_does_254 (by decide) (fun c_254 => ?_) (fun c_254 => ?_)
                                · refine lv_iload_n hx hb dL_does_266 rfl (lv_at hl 1 rfl) ?_
                                  refine lv_bipush (v := 16) hx hb dL_does_267 (by decide) ?_
                                  refine lv_icmp_ne (tgt := 281) hx hb dL_does_269 (by decide) (fun c_269 => ?_) (fun c_269 => ?_)
                                  · exact absurd c_269 (by decide)
                                  · refine lv_aload_n hx hb dL_does_272 rfl (lv_at hl 0 rfl) ?_
                                    refine lv_iload_n hx hb dL_does_273 rfl (lv_at hl 2 rfl) ?_
                                    refine lv_iload_n hx hb dL_does_274 rfl (lv_at hl 3 rfl) ?_
                                    refine k_xRi X (k_xrunV (As := [.int xu, .int xr]) (rest := []) Z X (c_X7_next l E G S T o ad xu xr hE hS hL) (k_cwV 2 Z.1.2.2.2.2 (inU_26 _ (List.mem_of_getElem? (i := 6) rfl)) (inU_26 _ (List.mem_of_getElem? (i := 7) rfl)) (inU_26 _ (List.mem_of_getElem? (i := 8) rfl)) (inU_1 _ (List.mem_of_getElem? (i := 2) rfl)) (inU_26 _ (List.mem_of_getElem? (i := 9) rfl)) rfl rfl (by decide +kernel) ⟨Nat.le_of_ble_eq_true rfl, Nat.le_of_ble_eq_true rfl⟩) (k_recv Z X ct_0 rfl) rfl hl.1 rfl (Nat.le_of_ble_eq_true rfl) dL_does_275 ⟨(Nat.le_of_ble_eq_true rfl), (Nat.le_of_ble_eq_true rfl)⟩) (fun x ce q9 ad1 ct1 H locs hp X x1 x2 x3 => ?_) (fun r_275 ad1 ct1 H locs hp X => ?_)
                                    · obtain ⟨hq, ha_, hb_⟩ := hp
                                      rw [← ha_, hb_] at X
                                      obtain ⟨hk, rfl⟩ := hq
                                      · refine vx_catch (own := RL) (name := "java/lang/IndexOutOfBoundsException") (E := "java/lang/IndexOutOfBoundsException") Z.1.2.2.2.1 [] ⟨0, 286, 287, 70⟩ [⟨0, 286, 292, 73⟩, ⟨0, 286, 297, 76⟩] (htab.trans rfl) (fun z hz => nomatch hz) rfl (by decide) (Z.1.2.2.2.2 _ (inU_6 _ (List.mem_of_getElem? (i := 7) rfl))) (hE.word Z.2.1 (List.mem_of_getElem? (i := 2) rfl)) x1 x2 x3 ?_
                                        refine lv_astore (lv' := [(6, .ref q9), (0, .ref (ad 0 0)), (1, .int 16), (2, .int xu), (3, .int xr), (4, .int y2), (5, .int y3)]) hx hb dL_does_287 hl (by decide) rfl (fun ls hl => ?_)
                                        refine lv_ldc (v := (-3000000)) hx hb Z.1.2.2.2.1 (Z.1.2.2.2.2 _ (inU_1 _ (List.mem_of_getElem? (i := 5) rfl))) dL_does_289 ?_
                                        exact vx_ret (k_iret Z X hr hlocks rfl (Nat.le_of_ble_eq_true rfl) (Nat.le_of_ble_eq_true rfl) dL_does_291 ⟨rfl, Or.inr (Or.inl ⟨hk, rfl, rfl⟩)⟩)
                                    obtain ⟨⟨hk, rfl⟩, ha_, hb_⟩ := hp
                                    rw [← ha_, hb_] at X
                                    refine lv_goto (tgt := 286) hx hb dL_does_278 (by decide) ?_
                                    exact vx_ret (k_iret Z X hr hlocks rfl (Nat.le_of_ble_eq_true rfl) (Nat.le_of_ble_eq_true rfl) dL_does_286 ⟨rfl, Or.inl ⟨hk, rfl, _, rfl, rfl⟩⟩)
                                · exact absurd c_254 (by decide)
                              · exact absurd c_220 (by decide)
                            · exact absurd c_205 (by decide)
                          · exact absurd c_191 (by decide)
                        · exact absurd c_177 (by decide)
                      · exact absurd c_155 (by decide)
                    · exact absurd c_140 (by decide)
                  · exact absurd c_121 (by decide)
                · exact absurd c_104 (by decide)
              · exact absurd c_87 (by decide)
            · exact absurd c_72 (by decide)
          · exact absurd c_56 (by decide)
        · exact absurd c_42 (by decide)
      · exact absurd c_28 (by decide)
    · exact absurd c_14 (by decide)
  · exact absurd c_1 (by decide)
set_option maxHeartbeats 4000000 in
set_option maxRecDepth 100000 in
theorem c_L_does_17 (l : Launch) (E : State) (G : kG) (S T : kSt) (o : Int64) (ad : kAd) (xt y1 y2 y3 : Int32) (hE : kE l E G) (hS : okN S) (hL : okL S) : vx_Met l yL_does (.codeWith yL_does cL_does 7 (some .int) [(0, 286, 287, 70), (0, 286, 292, 73), (0, 286, 297, 76)] :: wsL_law) ({ frames := 16, cells := 2, slots := 12, locals := 460 } : Room) (va_Pc [.ref (ad 0 0), .int 17, .int xt, .int y1, .int y2, .int y3] (kPre E G ad (cto G S T o ad))) (kQi E G (fun r ad1 ct1 => kDP G S T o (ad = ad1) (cTaskOf S xt) (-3000000) 0 0 (S.1 14 (cl xt)) (fun S1 => S1 = S) r ad1 ct1)) (kXC E G (fun _ _ _ => False)) 2 12 (kB E.heap.size) := by
  refine vx_ofWH (cc := cL_does) (maxL := 7) (ret := (some .int)) (by decide) rfl ?_
  intro p e s m args below meth c s₁ B hml hv
  obtain ⟨rfl, hM, hK, hW0⟩ := hv
  have hlocks := B.notSynchronized
  have hr := B.returns
  have Z : kZ p m c cL_does 7 s _ wsL_law RL E G := ⟨⟨B.exec, B.bytes, hml, findClass_of_methodNamed B.named, fun w h => atoms_spec (ws := .codeWith yL_does cL_does 7 (some .int) [(0, 286, 287, 70), (0, 286, 292, 73), (0, 286, 297, 76)] :: wsL_law) B.pre w (List.mem_cons_of_mem _ h)⟩, hM, hK⟩
  have hx := Z.1.1
  have hb := Z.1.2.1
  have X := kX.of hW0
  have hl := lv_entry ([.ref (ad 0 0), .int 17, .int xt, .int y1, .int y2, .int y3]) (n := 7) (Nat.le_of_ble_eq_true rfl)
  rw [lg_entry_eq]
  generalize (lg_sl ([.ref (ad 0 0), .int 17, .int xt, .int y1, .int y2, .int y3]) ++ List.replicate (7 - (lg_sl ([.ref (ad 0 0), .int 17, .int xt, .int y1, .int y2, .int y3])).length) Slot.unset).toArray = ls at hl ⊢
  have hl : lv_has ls 7 [(0, .ref (ad 0 0)), (1, .int 17), (2, .int xt), (3, .int y1), (4, .int y2), (5, .int y3)] := hl
  have htab := vx_table (x := yL_does) B (atoms_spec (ws := .codeWith yL_does cL_does 7 (some .int) [(0, 286, 287, 70), (0, 286, 292, 73), (0, 286, 297, 76)] :: wsL_law) B.pre _ List.mem_cons_self)
  refine lv_iload_n hx hb dL_does_0 rfl (lv_at hl 1 rfl) ?_
  refine lv_if_ne (tgt := 12) hx hb dL_does_1 (by decide) (fun c_1 => ?_) (fun c_1 => ?_)
  · refine lv_iload_n hx hb dL_does_12 rfl (lv_at hl 1 rfl) ?_
    refine lv_iconst (v := 1) hx hb dL_does_13 (by decide) ?_
    refine lv_icmp_ne (tgt := 26) hx hb dL_does_14 (by decide) (fun c_14 => ?_) (fun c_14 => ?_)
    · refine lv_iload_n hx hb dL_does_26 rfl (lv_at hl 1 rfl) ?_
      refine lv_iconst (v := 2) hx hb dL_does_27 (by decide) ?_
      refine lv_icmp_ne (tgt := 40) hx hb dL_does_28 (by decide) (fun c_28 => ?_) (fun c_28 => ?_)
      · refine lv_iload_n hx hb dL_does_40 rfl (lv_at hl 1 rfl) ?_
        refine lv_iconst (v := 3) hx hb dL_does_41 (by decide) ?_
        refine lv_icmp_ne (tgt := 54) hx hb dL_does_42 (by decide) (fun c_42 => ?_) (fun c_42 => ?_)
        · refine lv_iload_n hx hb dL_does_54 rfl (lv_at hl 1 rfl) ?_
          refine lv_iconst (v := 4) hx hb dL_does_55 (by decide) ?_
          refine lv_icmp_ne (tgt := 70) hx hb dL_does_56 (by decide) (fun c_56 => ?_) (fun c_56 => ?_)
          · refine lv_iload_n hx hb dL_does_70 rfl (lv_at hl 1 rfl) ?_
            refine lv_iconst (v := 5) hx hb dL_does_71 (by decide) ?_
            refine lv_icmp_ne (tgt := 84) hx hb dL_does_72 (by decide) (fun c_72 => ?_) (fun c_72 => ?_)
            · refine lv_iload_n hx hb dL_does_84 rfl (lv_at hl 1 rfl) ?_
              refine lv_bipush (v := 6) hx hb dL_does_85 (by decide) ?_
              refine lv_icmp_ne (tgt := 101) hx hb dL_does_87 (by decide) (fun c_87 => ?_) (fun c_87 => ?_)
              · refine lv_iload_n hx hb dL_does_101 rfl (lv_at hl 1 rfl) ?_
                refine lv_bipush (v := 7) hx hb dL_does_102 (by decide) ?_
                refine lv_icmp_ne (tgt := 118) hx hb dL_does_104 (by decide) (fun c_104 => ?_) (fun c_104 => ?_)
                · refine lv_iload_n hx hb dL_does_118 rfl (lv_at hl 1 rfl) ?_
                  refine lv_bipush (v := 8) hx hb dL_does_119 (by decide) ?_
                  refine lv_icmp_ne (tgt := 137) hx hb dL_does_121 (by decide) (fun c_121 => ?_) (fun c_121 => ?_)
                  · refine lv_iload_n hx hb dL_does_137 rfl (lv_at hl 1 rfl) ?_
                    refine lv_bipush (v := 9) hx hb dL_does_138 (by decide) ?_
                    refine lv_icmp_ne (tgt := 152) hx hb dL_does_140 (by decide) (fun c_140 => ?_) (fun c_140 => ?_)
                    · refine lv_iload_n hx hb dL_does_152 rfl (lv_at hl 1 rfl) ?_
                      refine lv_bipush (v := 10) hx hb dL_does_153 (by decide) ?_
                      refine lv_icmp_ne (tgt := 174) hx hb dL_does_155 (by decide) (fun c_155 => ?_) (fun c_155 => ?_)
                      · refine lv_iload_n hx hb dL_does_174 rfl (lv_at hl 1 rfl) ?_
                        refine lv_bipush (v := 11) hx hb dL_does_175 (by decide) ?_
                        refine lv_icmp_ne (tgt := 188) hx hb dL_does_177 (by decide) (fun c_177 => ?_) (fun c_177 => ?_)
                        · refine lv_iload_n hx hb dL_does_188 rfl (lv_at hl 1 rfl) ?_
                          refine lv_bipush (v := 12) hx hb dL_does_189 (by decide) ?_
                          refine lv_icmp_ne (tgt := 202) hx hb dL_does_191 (by decide) (fun c_191 => ?_) (fun c_191 => ?_)
                          · refine lv_iload_n hx hb dL_does_202 rfl (lv_at hl 1 rfl) ?_
                            refine lv_bipush (v := 13) hx hb dL_does_203 (by decide) ?_
                            refine lv_icmp_ne (tgt := 217) hx hb dL_does_205 (by decide) (fun c_205 => ?_) (fun c_205 => ?_)
                            · refine lv_iload_n hx hb dL_does_217 rfl (lv_at hl 1 rfl) ?_
                              refine lv_bipush (v := 14) hx hb dL_does_218 (by decide) ?_
                              refine lv_icmp_ne (tgt := 251) hx hb dL_does_220 (by decide) (fun c_220 => ?_) (fun c_220 => ?_)
                              · refine lv_iload_n hx hb dL_does_251 rfl (lv_at hl 1 rfl) ?_
                                refine lv_bipush (v := 15) hx hb dL_does_252 (by decide) ?_
                                refine lv_icmp_ne (tgt := 266) hx hb dL_does_254 (by decide) (fun c_254 => ?_) (fun c_254 => ?_)
                                · refine lv_iload_n hx hb dL_does_266 rfl (lv_at hl 1 rfl) ?_
                                  refine lv_bipush (v := 16) hx hb dL_does_267 (by decide) ?_
                                  refine lv_icmp_ne (tgt := 281) hx hb dL_does_269 (by decide) (fun c_269 => ?_) (fun c_269 => ?_)
                                  · refine lv_aload_n hx hb dL_does_281 rfl (lv_at hl 0 rfl) ?_
                                    refine lv_iload_n hx hb dL_does_282 rfl (lv_at hl 2 rfl) ?_
                                    refine k_xRi X (k_xrunV (As := [.int xt]) (rest := []) Z X (c_X7_taskOf l E G S T o ad xt hE hS hL) (k_cwV 1 Z.1.2.2.2.2 (inU_26 _ (List.mem_of_getElem? (i := 22) rfl)) (inU_26 _ (List.mem_of_getElem? (i := 23) rfl)) (inU_27 _ (List.mem_of_getElem? (i := 0) rfl)) (inU_1 _ (List.mem_of_getElem? (i := 2) rfl)) (inU_27 _ (List.mem_of_getElem? (i := 1) rfl)) rfl rfl (by decide +kernel) ⟨Nat.le_of_ble_eq_true rfl, Nat.le_of_ble_eq_true rfl⟩) (k_recv Z X ct_0 rfl) rfl hl.1 rfl (Nat.le_of_ble_eq_true rfl) dL_does_283 ⟨(Nat.le_of_ble_eq_true rfl), (Nat.le_of_ble_eq_true rfl)⟩) (fun x ce q9 ad1 ct1 H locs hp X x1 x2 x3 => ?_) (fun r_283 ad1 ct1 H locs hp X => ?_)
                                    · obtain ⟨hq, ha_, hb_⟩ := hp
                                      rw [← ha_, hb_] at X
                                      obtain ⟨hk, rfl⟩ := hq
                                      · refine vx_catch (own := RL) (name := "java/lang/IndexOutOfBoundsException") (E := "java/lang/IndexOutOfBoundsException") Z.1.2.2.2.1 [] ⟨0, 286, 287, 70⟩ [⟨0, 286, 292, 73⟩, ⟨0, 286, 297, 76⟩] (htab.trans rfl) (fun z hz => nomatch hz) rfl (by decide) (Z.1.2.2.2.2 _ (inU_6 _ (List.mem_of_getElem? (i := 7) rfl))) (hE.word Z.2.1 (List.mem_of_getElem? (i := 2) rfl)) x1 x2 x3 ?_
                                        refine lv_astore (lv' := [(6, .ref q9), (0, .ref (ad 0 0)), (1, .int 17), (2, .int xt), (3, .int y1), (4, .int y2), (5, .int y3)]) hx hb dL_does_287 hl (by decide) rfl (fun ls hl => ?_)
                                        refine lv_ldc (v := (-3000000)) hx hb Z.1.2.2.2.1 (Z.1.2.2.2.2 _ (inU_1 _ (List.mem_of_getElem? (i := 5) rfl))) dL_does_289 ?_
                                        exact vx_ret (k_iret Z X hr hlocks rfl (Nat.le_of_ble_eq_true rfl) (Nat.le_of_ble_eq_true rfl) dL_does_291 ⟨rfl, Or.inr (Or.inl ⟨hk, rfl, rfl⟩)⟩)
                                    obtain ⟨⟨hk, rfl⟩, ha_, hb_⟩ := hp
                                    rw [← ha_, hb_] at X
                                    exact vx_ret (k_iret Z X hr hlocks rfl (Nat.le_of_ble_eq_true rfl) (Nat.le_of_ble_eq_true rfl) dL_does_286 ⟨rfl, Or.inl ⟨hk, rfl, _, rfl, rfl⟩⟩)
                                  · exact absurd c_269 (by decide)
                                · exact absurd c_254 (by decide)
                              · exact absurd c_220 (by decide)
                            · exact absurd c_205 (by decide)
                          · exact absurd c_191 (by decide)
                        · exact absurd c_177 (by decide)
                      · exact absurd c_155 (by decide)
                    · exact absurd c_140 (by decide)
                  · exact absurd c_121 (by decide)
                · exact absurd c_104 (by decide)
              · exact absurd c_87 (by decide)
            · exact absurd c_72 (by decide)
          · exact absurd c_56 (by decide)
        · exact absurd c_42 (by decide)
      · exact absurd c_28 (by decide)
    · exact absurd c_14 (by decide)
  · exact absurd c_1 (by decide)
