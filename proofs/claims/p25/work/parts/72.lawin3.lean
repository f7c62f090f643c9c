set_option maxRecDepth 20000 in
theorem lin17 : GoodIn lw_tbl wsL_law_r17 := goodIn_r _ [250, 252, 254, 229, 248, 418, 419, 421, 0, 422, 423, 425, 1, 426, 427, 428, 429, 430, 431, 432, 433, 434, 436, 437] (by decide +kernel) (by decide +kernel)
set_option maxRecDepth 20000 in
theorem lin18 : GoodIn lw_tbl wsL_law_r18 := goodIn_r _ [438, 439, 440, 441, 442, 20, 443, 670, 444, 445, 446, 447, 448, 671, 450, 451, 452, 453, 454, 455, 456, 457, 458, 459] (by decide +kernel) (by decide +kernel)
set_option maxRecDepth 20000 in
theorem lin19 : GoodIn lw_tbl wsL_law_r19 := goodIn_r _ [21, 460, 461, 462, 463, 464, 466, 467, 22, 468, 469, 470, 23, 471, 472, 473, 474, 475, 476, 477, 478, 479, 480, 481] (by decide +kernel) (by decide +kernel)
set_option maxRecDepth 20000 in
theorem lin20 : GoodIn lw_tbl wsL_law_r20 := goodIn_r _ [482, 484, 486, 490, 492, 2, 493, 494, 363, 24, 364, 495, 496, 497, 498, 499, 500, 502, 3, 503, 504, 505, 506, 370] (by decide +kernel) (by decide +kernel)
set_option maxRecDepth 100000 in
theorem lin21 : GoodIn lw_tbl wsL_law_r21 := goodIn_cons 371 rfl (by decide +kernel) (goodIn_cons 372 rfl (by decide +kernel) (goodIn_cons 373 rfl (by decide +kernel) (goodIn_cons 374 rfl (by decide +kernel) (goodIn_cons 375 rfl (by decide +kernel) (goodIn_cons 376 rfl (by decide +kernel) (goodIn_cons 377 rfl (by decide +kernel) (goodIn_cons 517 rfl (by decide +kernel) (goodIn_cons 518 rfl (by decide +kernel) (goodIn_cons 519 rfl (by decide +kernel) (goodIn_cons 520 rfl (by decide +kernel) (goodIn_cons 521 rfl (by decide +kernel) (goodIn_cons 522 rfl (by decide +kernel) (goodIn_cons 523 rfl (by decide +kernel) (goodIn_cons 524 rfl (by decide +kernel) (goodIn_cons 528 rfl (by decide +kernel) (goodIn_cons 529 rfl (by decide +kernel) (goodIn_cons 530 rfl (by decide +kernel) (goodIn_cons 531 rfl (by decide +kernel) (goodIn_cons 546 rfl (by decide +kernel) (goodIn_cons 547 rfl (by decide +kernel) (goodIn_cons 548 rfl (by decide +kernel) (goodIn_cons 513 rfl (by decide +kernel) (goodIn_cons 514 rfl (by decide +kernel) (goodIn_nil lw_tbl))))))))))))))))))))))))
set_option maxRecDepth 20000 in
theorem lin22 : GoodIn lw_tbl wsL_law_r22 := goodIn_r _ [515, 516, 410, 411, 412, 413, 247, 507, 509, 510, 511, 512, 350, 351, 352, 353, 354, 355, 356, 357, 358, 359, 360, 361] (by decide +kernel) (by decide +kernel)
set_option maxRecDepth 100000 in
theorem lin23 : GoodIn lw_tbl wsL_law_r23 := goodIn_cons 362 rfl (by decide +kernel) (goodIn_cons 365 rfl (by decide +kernel) (goodIn_cons 366 rfl (by decide +kernel) (goodIn_cons 367 rfl (by decide +kernel) (goodIn_cons 368 rfl (by decide +kernel) (goodIn_cons 369 rfl (by decide +kernel) (goodIn_cons 569 rfl (by decide +kernel) (goodIn_cons 570 rfl (by decide +kernel) (goodIn_cons 571 rfl (by decide +kernel) (goodIn_cons 643 rfl (by decide +kernel) (goodIn_cons 644 rfl (by decide +kernel) (goodIn_cons 645 rfl (by decide +kernel) (goodIn_nil lw_tbl))))))))))))
set_option maxRecDepth 20000 in
theorem lix7 : GoodIn lw_tbl wsX70 := goodIn_of _ (by decide +kernel)
set_option maxRecDepth 20000 in
theorem lix3 : GoodIn lw_tbl wsX30 := goodIn_of _ (by decide +kernel)
set_option maxRecDepth 20000 in
theorem lix1 : GoodIn lw_tbl wsX10 := goodIn_of _ (by decide +kernel)
set_option maxRecDepth 20000 in
theorem lix5 : GoodIn lw_tbl wsX50 := goodIn_of _ (by decide +kernel)
set_option maxRecDepth 20000 in
theorem lix4 : GoodIn lw_tbl wsX40 := goodIn_of _ (by decide +kernel)
set_option maxRecDepth 20000 in
theorem lix0 : GoodIn lw_tbl wsX00 := goodIn_of _ (by decide +kernel)
set_option maxRecDepth 20000 in
theorem lix2 : GoodIn lw_tbl wsX20 := goodIn_of _ (by decide +kernel)
set_option maxRecDepth 20000 in
theorem lix6 : GoodIn lw_tbl wsX60 := goodIn_of _ (by decide +kernel)
theorem wsL_law_in : GoodIn lw_tbl wsL_law := goodIn_app (goodIn_app (goodIn_app (goodIn_app (goodIn_app (goodIn_app (goodIn_app (goodIn_app (goodIn_app (goodIn_app lin1 (goodIn_app lin2 (goodIn_app lin3 (goodIn_app lin4 (goodIn_app lin5 (goodIn_app lin6 (goodIn_app lin7 (goodIn_app lin8 (goodIn_app lin9 (goodIn_app lin10 (goodIn_app lin11 (goodIn_app lin12 (goodIn_app lin13 (goodIn_app lin14 (goodIn_app lin15 (goodIn_app lin16 (goodIn_app lin17 (goodIn_app lin18 (goodIn_app lin19 (goodIn_app lin20 (goodIn_app lin21 (goodIn_app lin22 (lin23))))))))))))))))))))))) lix7) lix3) lix1) lix5) lix4) lix0) lix2) lix6) (fun _ h => absurd h List.not_mem_nil)
theorem GoodIn.tr {a b x : List Cond} (h : GoodIn b x) (hb : ∀ w ∈ b, w ∈ a) : GoodIn a x := fun w hw => ⟨hb w (h w hw).1, (h w hw).2⟩
