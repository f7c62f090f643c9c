/-! ===== the law: its words among the tables', by places ===== -/
theorem goodIn_nil (big : List Cond) : GoodIn big [] := fun _ h => absurd h List.not_mem_nil
theorem goodIn_cons {big ws : List Cond} {w : Cond} (i : Nat) (h : big[i]? = some w) (g : goodWord w = true) (hr : GoodIn big ws) : GoodIn big (w :: ws) := fun z hz => by
  rcases List.mem_cons.mp hz with rfl | hz
  · exact ⟨List.mem_of_getElem? h, good_of_word g⟩
  · exact hr z hz
set_option maxRecDepth 20000 in
theorem lin1 : GoodIn lw_tbl wsL_law_r1 := goodIn_r _ [25, 26, 10, 27, 28, 29, 30, 31, 32, 33, 34, 11, 269, 270, 202, 203, 16, 271, 222, 223, 17, 272, 238, 239] (by decide +kernel) (by decide +kernel)
set_option maxRecDepth 20000 in
theorem lin2 : GoodIn lw_tbl wsL_law_r2 := goodIn_r _ [18, 273, 35, 36, 37, 38, 39, 40, 12, 142, 79, 80, 13, 144, 109, 110, 14, 146, 78, 148, 150, 137, 139, 141] (by decide +kernel) (by decide +kernel)
set_option maxRecDepth 20000 in
theorem lin3 : GoodIn lw_tbl wsL_law_r3 := goodIn_r _ [140, 15, 42, 43, 44, 51, 54, 56, 59, 61, 82, 83, 84, 85, 88, 90, 92, 95, 112, 113, 114, 120, 122, 124] (by decide +kernel) (by decide +kernel)
set_option maxRecDepth 100000 in
theorem lin4 : GoodIn lw_tbl wsL_law_r4 := goodIn_cons 204 rfl (by decide +kernel) (goodIn_cons 205 rfl (by decide +kernel) (goodIn_cons 206 rfl (by decide +kernel) (goodIn_cons 207 rfl (by decide +kernel) (goodIn_cons 208 rfl (by decide +kernel) (goodIn_cons 214 rfl (by decide +kernel) (goodIn_cons 210 rfl (by decide +kernel) (goodIn_cons 225 rfl (by decide +kernel) (goodIn_cons 226 rfl (by decide +kernel) (goodIn_cons 227 rfl (by decide +kernel) (goodIn_cons 237 rfl (by decide +kernel) (goodIn_cons 231 rfl (by decide +kernel) (goodIn_cons 241 rfl (by decide +kernel) (goodIn_cons 242 rfl (by decide +kernel) (goodIn_cons 243 rfl (by decide +kernel) (goodIn_cons 244 rfl (by decide +kernel) (goodIn_cons 246 rfl (by decide +kernel) (goodIn_cons 255 rfl (by decide +kernel) (goodIn_cons 650 rfl (by decide +kernel) (goodIn_cons 651 rfl (by decide +kernel) (goodIn_cons 9 rfl (by decide +kernel) (goodIn_cons 652 rfl (by decide +kernel) (goodIn_cons 394 rfl (by decide +kernel) (goodIn_cons 395 rfl (by decide +kernel) (goodIn_nil lw_tbl))))))))))))))))))))))))
set_option maxRecDepth 20000 in
theorem lin5 : GoodIn lw_tbl wsL_law_r5 := goodIn_r _ [396, 397, 149, 143, 46, 49, 153, 155, 157, 159, 161, 163, 147, 116, 118, 166, 168, 170, 145, 212, 230, 398, 399, 400] (by decide +kernel) (by decide +kernel)
set_option maxRecDepth 20000 in
theorem lin6 : GoodIn lw_tbl wsL_law_r6 := goodIn_r _ [401, 285, 286, 287, 288, 289, 290, 291, 292, 293, 294, 295, 296, 297, 298, 299, 300, 301, 302, 303, 304, 305, 306, 307] (by decide +kernel) (by decide +kernel)
set_option maxRecDepth 20000 in
theorem lin7 : GoodIn lw_tbl wsL_law_r7 := goodIn_r _ [45, 308, 309, 310, 311, 211, 213, 312, 313, 314, 315, 152, 154, 156, 158, 160, 162, 164, 165, 167, 169, 316, 317, 318] (by decide +kernel) (by decide +kernel)
set_option maxRecDepth 20000 in
theorem lin8 : GoodIn lw_tbl wsL_law_r8 := goodIn_r _ [319, 48, 320, 321, 322, 323, 324, 325, 326, 327, 328, 329, 115, 117, 330, 331, 332, 333, 334, 335, 336, 337, 338, 339] (by decide +kernel) (by decide +kernel)
