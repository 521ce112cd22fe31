theorem qL_7 : Cond.classLink R_law 7 "MachineBench" ∈ z_U := z_U_ix (i := 68) (by decide +kernel) rfl
theorem qX9_1 : Cond.methodLink RX9 1 objectInit ∈ z_U := z_U_ix (i := 73) (by decide +kernel) rfl
theorem qX9_7 : Cond.classLink RX9 7 "MachineBench$Tape" ∈ z_U := z_U_ix (i := 76) (by decide +kernel) rfl
theorem qX6_3 : Cond.methodLink RX6 3 objectInit ∈ z_U := z_U_ix (i := 81) (by decide +kernel) rfl
theorem qX9_16 : Cond.classLink RX9 16 "MachineBench$Reader" ∈ z_U := z_U_ix (i := 93) (by decide +kernel) rfl
theorem qX4_3 : Cond.methodLink RX4 3 objectInit ∈ z_U := z_U_ix (i := 98) (by decide +kernel) rfl
theorem qX4_9 : Cond.classLink RX4 9 "[[I" ∈ z_U := z_U_ix (i := 99) (by decide +kernel) rfl
theorem qX9_25 : Cond.classLink RX9 25 "MachineBench$Machine" ∈ z_U := z_U_ix (i := 123) (by decide +kernel) rfl
theorem qX2_3 : Cond.methodLink RX2 3 objectInit ∈ z_U := z_U_ix (i := 129) (by decide +kernel) rfl
theorem qX2_21 : Cond.classLink RX2 21 "[[I" ∈ z_U := z_U_ix (i := 130) (by decide +kernel) rfl
theorem qX9_36 : Cond.classLink RX9 36 "MachineBench$World" ∈ z_U := z_U_ix (i := 156) (by decide +kernel) rfl
theorem qX8_3 : Cond.methodLink RX8 3 objectInit ∈ z_U := z_U_ix (i := 161) (by decide +kernel) rfl
theorem qX8_9 : Cond.classLink RX8 9 "[[I" ∈ z_U := z_U_ix (i := 162) (by decide +kernel) rfl
theorem qX9_43 : Cond.classLink RX9 43 "MachineBench$Play" ∈ z_U := z_U_ix (i := 176) (by decide +kernel) rfl
theorem qX3_3 : Cond.methodLink RX3 3 objectInit ∈ z_U := z_U_ix (i := 181) (by decide +kernel) rfl
theorem qX9_50 : Cond.classLink RX9 50 "MachineBench$Book" ∈ z_U := z_U_ix (i := 205) (by decide +kernel) rfl
theorem qX0_3 : Cond.methodLink RX0 3 objectInit ∈ z_U := z_U_ix (i := 210) (by decide +kernel) rfl
theorem qX0_9 : Cond.classLink RX0 9 "[[I" ∈ z_U := z_U_ix (i := 211) (by decide +kernel) rfl
theorem qX9_57 : Cond.classLink RX9 57 "MachineBench$Keeper" ∈ z_U := z_U_ix (i := 223) (by decide +kernel) rfl
theorem qX1_3 : Cond.methodLink RX1 3 objectInit ∈ z_U := z_U_ix (i := 229) (by decide +kernel) rfl
theorem qX9_64 : Cond.classLink RX9 64 "MachineBench$Things" ∈ z_U := z_U_ix (i := 239) (by decide +kernel) rfl
theorem qX7_3 : Cond.methodLink RX7 3 objectInit ∈ z_U := z_U_ix (i := 244) (by decide +kernel) rfl
theorem qX9_82 : Cond.classLink RX9 82 "MachineBench$Sheet" ∈ z_U := z_U_ix (i := 259) (by decide +kernel) rfl
theorem qX5_3 : Cond.methodLink RX5 3 objectInit ∈ z_U := z_U_ix (i := 265) (by decide +kernel) rfl
theorem qX4_100 : Cond.fieldLinkNest RX4 100 "MachineBench" (z_sn 3) "[I" "MachineBench" ∈ z_U := z_U_ix (i := 389) (by decide +kernel) rfl
theorem qX4_107 : Cond.constant RX4 107 (-1431655766) ∈ z_U := z_U_ix (i := 395) (by decide +kernel) rfl
theorem qX4_62 : Cond.methodLink RX4 62 arraycopyName ∈ z_U := z_U_ix (i := 400) (by decide +kernel) rfl
theorem qX9_153 : Cond.methodLink RX9 153 arraycopyName ∈ z_U := z_U_ix (i := 443) (by decide +kernel) rfl
theorem qX3_33 : Cond.methodLink RX3 33 arraycopyName ∈ z_U := z_U_ix (i := 460) (by decide +kernel) rfl
theorem qX0_20 : Cond.fieldLinkNest RX0 20 "MachineBench" (z_sn 1) "[I" "MachineBench" ∈ z_U := z_U_ix (i := 497) (by decide +kernel) rfl
theorem qX9_208 : Cond.fieldLink RX9 208 "MachineBench" (z_sn 0) "[I" ∈ z_U := z_U_ix (i := 527) (by decide +kernel) rfl
theorem qX0_24 : Cond.methodLink RX0 24 arraycopyName ∈ z_U := z_U_ix (i := 545) (by decide +kernel) rfl
theorem qX1_26 : Cond.methodLink RX1 26 arraycopyName ∈ z_U := z_U_ix (i := 558) (by decide +kernel) rfl
theorem qJ6_265 : Cond.constant RJ6 265 (nI 1431655765) ∈ z_U := z_U_ix (i := 649) (by decide +kernel) rfl
theorem qJ6_266 : Cond.constant RJ6 266 (nI 858993459) ∈ z_U := z_U_ix (i := 650) (by decide +kernel) rfl
theorem qJ6_267 : Cond.constant RJ6 267 (nI 252645135) ∈ z_U := z_U_ix (i := 651) (by decide +kernel) rfl
theorem qX9_282 : Cond.fieldLink RX9 282 "MachineBench" (z_sn 2) "[I" ∈ z_U := z_U_ix (i := 680) (by decide +kernel) rfl
theorem qL_10 : Cond.classLink R_law 10 "MachineBenchModel" ∈ z_U := z_U_ix (i := 729) (by decide +kernel) rfl
theorem qX10_1 : Cond.methodLink RX10 1 objectInit ∈ z_U := z_U_ix (i := 734) (by decide +kernel) rfl
theorem qX10_129 : Cond.constantLong RX10 129 (lN 8) ∈ z_U := z_U_ix (i := 878) (by decide +kernel) rfl
theorem qX10_135 : Cond.constantLong RX10 135 (lN 255) ∈ z_U := z_U_ix (i := 882) (by decide +kernel) rfl
theorem qX10_137 : Cond.constantLong RX10 137 (lN 32) ∈ z_U := z_U_ix (i := 883) (by decide +kernel) rfl
theorem qX10_139 : Cond.constantLong RX10 139 (lN 126) ∈ z_U := z_U_ix (i := 884) (by decide +kernel) rfl
theorem qX10_155 : Cond.constantLong RX10 155 (lN 48) ∈ z_U := z_U_ix (i := 904) (by decide +kernel) rfl
theorem qX10_157 : Cond.constantLong RX10 157 (lN 51) ∈ z_U := z_U_ix (i := 905) (by decide +kernel) rfl
theorem qX10_180 : Cond.constantLong RX10 180 (lN 2) ∈ z_U := z_U_ix (i := 922) (by decide +kernel) rfl
theorem qX10_182 : Cond.constantLong RX10 182 (lN 12) ∈ z_U := z_U_ix (i := 927) (by decide +kernel) rfl
theorem qX10_187 : Cond.constantLong RX10 187 (lN 15) ∈ z_U := z_U_ix (i := 936) (by decide +kernel) rfl
theorem qX10_207 : Cond.constantLong RX10 207 (lN 3) ∈ z_U := z_U_ix (i := 944) (by decide +kernel) rfl
theorem qX10_220 : Cond.constantLong RX10 220 (lN 11) ∈ z_U := z_U_ix (i := 989) (by decide +kernel) rfl
theorem qX10_222 : Cond.constantLong RX10 222 (lN 99) ∈ z_U := z_U_ix (i := 990) (by decide +kernel) rfl
theorem qX10_227 : Cond.constantLong RX10 227 (lN 4) ∈ z_U := z_U_ix (i := 999) (by decide +kernel) rfl
theorem qX10_242 : Cond.constantLong RX10 242 (lN 47) ∈ z_U := z_U_ix (i := 1035) (by decide +kernel) rfl
theorem qX10_254 : Cond.constantLong RX10 254 (lN 7) ∈ z_U := z_U_ix (i := 1060) (by decide +kernel) rfl
theorem qL_13 : Cond.constantLong R_law 13 (lN 4294967295) ∈ z_U := z_U_ix (i := 1143) (by decide +kernel) rfl
section AWL
variable {l : Launch} {g : zG} {own : String} {cc : ByteArray} {nL : Nat} {rt : Option FieldType} {ini : Bool} {d bc bs pc : Nat} {ls : List (Option Value)} {st : List Value} {S : zS} {M : zM} {Q : Option Value → zS → zM → Prop}
theorem AW.ldcw (pc' : Nat) {ix : Nat} (v : Int32) (hd : decode cc pc = .ok (.ldc_w ix, 3)) (hw : Cond.constant own ix v ∈ z_U) (hp : pc + 3 = pc') (k : AW l g own cc nL rt ini d bc bs pc' ls (.int v :: st) S M Q) : AW l g own cc nL rt ini d bc bs pc ls st S M Q := by
  subst hp
  intro p e R s m args below meth c H locs cells slots mc ms hx hb hr hml hown hlk hin hA h1 h2 h3 h4 h5 h6 h7 h8 h9 hP hS la hl
  exact lv_ldcw hx hb hown (hA.word _ hw) hd (k p e R s m args below meth c H locs cells slots mc ms hx hb hr hml hown hlk hin hA h1 h2 h3 h4 h5 h6 h7 h8 h9 hP hS la hl)
end AWL
