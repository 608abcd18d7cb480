/-- the law's own: its script at the cell 2, of length L -/
def l_ai (L : Nat) (xs : Nat → Int32) : gz_AI (q_S × q_S) := fun j k => match j with
  | 2 => k L (fun _ => xs) (fun u _ _ => u)
  | _ => False
theorem l_fit {L k : Nat} (hL : L ≤ 2560) (hk : k ≤ 2600) (h : ¬ Int32.ofNat L - 5 < nI k) : k + 5 ≤ L := by
  have e1 : (nI L - nI 5).toInt = (L : Int) - (5 : Nat) := pk_sub_toInt (by omega) (by omega)
  have e2 : (nI k).toInt = (k : Int) := nI_toInt (by omega)
  have h2 : ¬ nI L - nI 5 < nI k := h
  rw [Int32.lt_iff_toInt_lt, e1, e2] at h2
  omega
def l_t (L : Nat) (xs : Nat → Int32) : List (Nat × gz_T (q_S × q_S)) := [(18, gz_ldi 19 3), (19, gz_lda 20 0), (20, gz_alen 21 2 (Int32.ofNat L)), (21, gz_push 22 (gz_i 5)), (22, gz_iop 23 (fun x y => x - y)), (23, gz_if2 26 709 (fun x y => y < x) (fun x y => ¬ y < x)), (26, gz_lda 27 0), (27, gz_ldi 28 3), (28, gz_ild 29 (l_ai L xs)), (29, gz_push 31 (gz_i 31)), (31, gz_iop 32 (fun x y => x &&& y)), (32, gz_sw [(0, 116), (1, 139), (2, 172), (3, 221), (4, 274), (5, 307), (6, 370), (7, 403), (8, 426), (9, 449), (10, 472), (11, 495), (12, 548), (13, 571), (14, 604), (15, 637), (16, 670)] 703), (116, gz_lda 117 1), (117, gz_lda 118 0), (118, gz_ldi 119 3), (119, gz_push 120 (gz_i 1)), (120, gz_iop 121 (fun x y => x + y)), (121, gz_ild 122 (l_ai L xs)), (122, gz_c1I 125 0 (fun u x => x_record_p u.1 x) (fun u x => x_record_r u.1 x) (fun u x => (x_record_s u.1 x, u.2))), (125, gz_lda 126 2), (126, gz_lda 127 0), (127, gz_ldi 128 3), (128, gz_push 129 (gz_i 1)), (129, gz_iop 130 (fun x y => x + y)), (130, gz_ild 131 (l_ai L xs)), (131, gz_c1I 134 1 (fun u x => m_record_p u.2 x) (fun u x => m_record_r u.2 x) (fun u x => (u.1, m_record_s u.2 x))), (134, gz_if2 137 703 (fun x y => x = y) (fun x y => ¬ x = y)), (137, gz_push 138 (gz_i 0)), (138, gz_iret), (139, gz_lda 140 1), (140, gz_lda 141 0), (141, gz_ldi 142 3), (142, gz_push 143 (gz_i 1)), (143, gz_iop 144 (fun x y => x + y)), (144, gz_ild 145 (l_ai L xs)), (145, gz_lda 146 0), (146, gz_ldi 147 3), (147, gz_push 148 (gz_i 2)), (148, gz_iop 149 (fun x y => x + y)), (149, gz_ild 150 (l_ai L xs)), (150, gz_c2I 153 0 (fun u x y => x_copy_p u.1 x y) (fun u x y => x_copy_r u.1 x y) (fun u x y => (x_copy_s u.1 x y, u.2))), (153, gz_lda 154 2), (154, gz_lda 155 0), (155, gz_ldi 156 3), (156, gz_push 157 (gz_i 1)), (157, gz_iop 158 (fun x y => x + y)), (158, gz_ild 159 (l_ai L xs)), (159, gz_lda 160 0), (160, gz_ldi 161 3), (161, gz_push 162 (gz_i 2)), (162, gz_iop 163 (fun x y => x + y)), (163, gz_ild 164 (l_ai L xs)), (164, gz_c2I 167 1 (fun u x y => m_copy_p u.2 x y) (fun u x y => m_copy_r u.2 x y) (fun u x y => (u.1, m_copy_s u.2 x y))), (167, gz_if2 170 703 (fun x y => x = y) (fun x y => ¬ x = y)), (170, gz_push 171 (gz_i 0)), (171, gz_iret), (172, gz_lda 173 1), (173, gz_lda 174 0), (174, gz_ldi 175 3), (175, gz_push 176 (gz_i 1)), (176, gz_iop 177 (fun x y => x + y)), (177, gz_ild 178 (l_ai L xs)), (178, gz_lda 179 0), (179, gz_ldi 180 3), (180, gz_push 181 (gz_i 2)), (181, gz_iop 182 (fun x y => x + y)), (182, gz_ild 183 (l_ai L xs)), (183, gz_if 186 190 (fun x => x = 0) (fun x => ¬ x = 0)), (186, gz_push 187 (gz_i 1)), (187, gz_goto 191), (190, gz_push 191 (gz_i 0)), (191, gz_c2I 194 0 (fun u x y => x_bar_p u.1 x y) (fun u x y => x_bar_r u.1 x y) (fun u x y => (x_bar_s u.1 x y, u.2))), (194, gz_lda 195 2), (195, gz_lda 196 0), (196, gz_ldi 197 3), (197, gz_push 198 (gz_i 1)), (198, gz_iop 199 (fun x y => x + y)), (199, gz_ild 200 (l_ai L xs)), (200, gz_lda 201 0), (201, gz_ldi 202 3), (202, gz_push 203 (gz_i 2)), (203, gz_iop 204 (fun x y => x + y)), (204, gz_ild 205 (l_ai L xs)), (205, gz_if 208 212 (fun x => x = 0) (fun x => ¬ x = 0)), (208, gz_push 209 (gz_i 1)), (209, gz_goto 213), (212, gz_push 213 (gz_i 0)), (213, gz_c2I 216 1 (fun u x y => m_bar_p u.2 x y) (fun u x y => m_bar_r u.2 x y) (fun u x y => (u.1, m_bar_s u.2 x y))), (216, gz_if2 219 703 (fun x y => x = y) (fun x y => ¬ x = y)), (219, gz_push 220 (gz_i 0)), (220, gz_iret), (221, gz_lda 222 1), (222, gz_lda 223 0), (223, gz_ldi 224 3), (224, gz_push 225 (gz_i 1)), (225, gz_iop 226 (fun x y => x + y)), (226, gz_ild 227 (l_ai L xs)), (227, gz_lda 228 0), (228, gz_ldi 229 3), (229, gz_push 230 (gz_i 2)), (230, gz_iop 231 (fun x y => x + y)), (231, gz_ild 232 (l_ai L xs)), (232, gz_lda 233 0), (233, gz_ldi 234 3), (234, gz_push 235 (gz_i 3)), (235, gz_iop 236 (fun x y => x + y)), (236, gz_ild 237 (l_ai L xs)), (237, gz_lda 238 0), (238, gz_ldi 239 3), (239, gz_push 240 (gz_i 4)), (240, gz_iop 241 (fun x y => x + y)), (241, gz_ild 242 (l_ai L xs)), (242, gz_c4I 245 0 (fun u x y z w => x_hold_p u.1 x y z w) (fun u x y z w => x_hold_r u.1 x y z w) (fun u x y z w => (x_hold_s u.1 x y z w, u.2))), (245, gz_lda 246 2), (246, gz_lda 247 0), (247, gz_ldi 248 3), (248, gz_push 249 (gz_i 1)), (249, gz_iop 250 (fun x y => x + y)), (250, gz_ild 251 (l_ai L xs)), (251, gz_lda 252 0), (252, gz_ldi 253 3), (253, gz_push 254 (gz_i 2)), (254, gz_iop 255 (fun x y => x + y)), (255, gz_ild 256 (l_ai L xs)), (256, gz_lda 257 0), (257, gz_ldi 258 3), (258, gz_push 259 (gz_i 3)), (259, gz_iop 260 (fun x y => x + y)), (260, gz_ild 261 (l_ai L xs)), (261, gz_lda 262 0), (262, gz_ldi 263 3), (263, gz_push 264 (gz_i 4)), (264, gz_iop 265 (fun x y => x + y)), (265, gz_ild 266 (l_ai L xs)), (266, gz_c4I 269 1 (fun u x y z w => m_hold_p u.2 x y z w) (fun u x y z w => m_hold_r u.2 x y z w) (fun u x y z w => (u.1, m_hold_s u.2 x y z w))), (269, gz_if2 272 703 (fun x y => x = y) (fun x y => ¬ x = y)), (272, gz_push 273 (gz_i 0)), (273, gz_iret), (274, gz_lda 275 1), (275, gz_lda 276 0), (276, gz_ldi 277 3), (277, gz_push 278 (gz_i 1)), (278, gz_iop 279 (fun x y => x + y)), (279, gz_ild 280 (l_ai L xs)), (280, gz_lda 281 0), (281, gz_ldi 282 3), (282, gz_push 283 (gz_i 2)), (283, gz_iop 284 (fun x y => x + y)), (284, gz_ild 285 (l_ai L xs)), (285, gz_c2I 288 0 (fun u x y => x_most_p u.1 x y) (fun u x y => x_most_r u.1 x y) (fun u x y => (x_most_s u.1 x y, u.2))), (288, gz_lda 289 2), (289, gz_lda 290 0), (290, gz_ldi 291 3), (291, gz_push 292 (gz_i 1)), (292, gz_iop 293 (fun x y => x + y)), (293, gz_ild 294 (l_ai L xs)), (294, gz_lda 295 0), (295, gz_ldi 296 3), (296, gz_push 297 (gz_i 2)), (297, gz_iop 298 (fun x y => x + y)), (298, gz_ild 299 (l_ai L xs)), (299, gz_c2I 302 1 (fun u x y => m_most_p u.2 x y) (fun u x y => m_most_r u.2 x y) (fun u x y => (u.1, m_most_s u.2 x y))), (302, gz_if2 305 703 (fun x y => x = y) (fun x y => ¬ x = y)), (305, gz_push 306 (gz_i 0)), (306, gz_iret), (307, gz_lda 308 1), (308, gz_lda 309 0), (309, gz_ldi 310 3), (310, gz_push 311 (gz_i 1)), (311, gz_iop 312 (fun x y => x + y)), (312, gz_ild 313 (l_ai L xs)), (313, gz_lda 314 0), (314, gz_ldi 315 3), (315, gz_push 316 (gz_i 2)), (316, gz_iop 317 (fun x y => x + y)), (317, gz_ild 318 (l_ai L xs)), (318, gz_itol 319), (319, gz_push 321 (gz_i 32)), (321, gz_lsh 322 (fun x y => x <<< (y.toInt64 &&& 63))), (322, gz_lda 323 0), (323, gz_ldi 324 3), (324, gz_push 325 (gz_i 3)), (325, gz_iop 326 (fun x y => x + y)), (326, gz_ild 327 (l_ai L xs)), (327, gz_itol 328), (328, gz_push 331 (gz_l 4294967295)), (331, gz_lop 332 (fun x y => x &&& y)), (332, gz_lop 333 (fun x y => x ||| y)), (333, gz_c1lI 336 0 (fun u x y => x_suspend_p u.1 x y) (fun u x y => x_suspend_r u.1 x y) (fun u x y => (x_suspend_s u.1 x y, u.2))), (336, gz_lda 337 2), (337, gz_lda 338 0), (338, gz_ldi 339 3), (339, gz_push 340 (gz_i 1)), (340, gz_iop 341 (fun x y => x + y)), (341, gz_ild 342 (l_ai L xs)), (342, gz_lda 343 0), (343, gz_ldi 344 3), (344, gz_push 345 (gz_i 2)), (345, gz_iop 346 (fun x y => x + y)), (346, gz_ild 347 (l_ai L xs)), (347, gz_itol 348), (348, gz_push 350 (gz_i 32)), (350, gz_lsh 351 (fun x y => x <<< (y.toInt64 &&& 63))), (351, gz_lda 352 0), (352, gz_ldi 353 3), (353, gz_push 354 (gz_i 3)), (354, gz_iop 355 (fun x y => x + y)), (355, gz_ild 356 (l_ai L xs)), (356, gz_itol 357), (357, gz_push 360 (gz_l 4294967295)), (360, gz_lop 361 (fun x y => x &&& y)), (361, gz_lop 362 (fun x y => x ||| y)), (362, gz_c1lI 365 1 (fun u x y => m_suspend_p u.2 x y) (fun u x y => m_suspend_r u.2 x y) (fun u x y => (u.1, m_suspend_s u.2 x y))), (365, gz_if2 368 703 (fun x y => x = y) (fun x y => ¬ x = y)), (368, gz_push 369 (gz_i 0)), (369, gz_iret), (370, gz_lda 371 1), (371, gz_lda 372 0), (372, gz_ldi 373 3), (373, gz_push 374 (gz_i 1)), (374, gz_iop 375 (fun x y => x + y)), (375, gz_ild 376 (l_ai L xs)), (376, gz_lda 377 0), (377, gz_ldi 378 3), (378, gz_push 379 (gz_i 2)), (379, gz_iop 380 (fun x y => x + y)), (380, gz_ild 381 (l_ai L xs)), (381, gz_c2I 384 0 (fun u x y => x_back_p u.1 x y) (fun u x y => x_back_r u.1 x y) (fun u x y => (x_back_s u.1 x y, u.2))), (384, gz_lda 385 2), (385, gz_lda 386 0), (386, gz_ldi 387 3), (387, gz_push 388 (gz_i 1)), (388, gz_iop 389 (fun x y => x + y)), (389, gz_ild 390 (l_ai L xs)), (390, gz_lda 391 0), (391, gz_ldi 392 3), (392, gz_push 393 (gz_i 2)), (393, gz_iop 394 (fun x y => x + y)), (394, gz_ild 395 (l_ai L xs)), (395, gz_c2I 398 1 (fun u x y => m_back_p u.2 x y) (fun u x y => m_back_r u.2 x y) (fun u x y => (u.1, m_back_s u.2 x y))), (398, gz_if2 401 703 (fun x y => x = y) (fun x y => ¬ x = y)), (401, gz_push 402 (gz_i 0)), (402, gz_iret), (403, gz_lda 404 1), (404, gz_lda 405 0), (405, gz_ldi 406 3), (406, gz_push 407 (gz_i 1)), (407, gz_iop 408 (fun x y => x + y)), (408, gz_ild 409 (l_ai L xs)), (409, gz_c1I 412 0 (fun u x => x_arrive_p u.1 x) (fun u x => x_arrive_r u.1 x) (fun u x => (x_arrive_s u.1 x, u.2))), (412, gz_lda 413 2), (413, gz_lda 414 0), (414, gz_ldi 415 3), (415, gz_push 416 (gz_i 1)), (416, gz_iop 417 (fun x y => x + y)), (417, gz_ild 418 (l_ai L xs)), (418, gz_c1I 421 1 (fun u x => m_arrive_p u.2 x) (fun u x => m_arrive_r u.2 x) (fun u x => (u.1, m_arrive_s u.2 x))), (421, gz_if2 424 703 (fun x y => x = y) (fun x y => ¬ x = y)), (424, gz_push 425 (gz_i 0)), (425, gz_iret), (426, gz_lda 427 1), (427, gz_lda 428 0), (428, gz_ldi 429 3), (429, gz_push 430 (gz_i 1)), (430, gz_iop 431 (fun x y => x + y)), (431, gz_ild 432 (l_ai L xs)), (432, gz_c1I 435 0 (fun u x => x_pick_p u.1 x) (fun u x => x_pick_r u.1 x) (fun u x => (x_pick_s u.1 x, u.2))), (435, gz_lda 436 2), (436, gz_lda 437 0), (437, gz_ldi 438 3), (438, gz_push 439 (gz_i 1)), (439, gz_iop 440 (fun x y => x + y)), (440, gz_ild 441 (l_ai L xs)), (441, gz_c1I 444 1 (fun u x => m_pick_p u.2 x) (fun u x => m_pick_r u.2 x) (fun u x => (u.1, m_pick_s u.2 x))), (444, gz_if2 447 703 (fun x y => x = y) (fun x y => ¬ x = y)), (447, gz_push 448 (gz_i 0)), (448, gz_iret), (449, gz_lda 450 1), (450, gz_lda 451 0), (451, gz_ldi 452 3), (452, gz_push 453 (gz_i 1)), (453, gz_iop 454 (fun x y => x + y)), (454, gz_ild 455 (l_ai L xs)), (455, gz_c1I 458 0 (fun u x => x_lend_p u.1 x) (fun u x => x_lend_r u.1 x) (fun u x => (x_lend_s u.1 x, u.2))), (458, gz_lda 459 2), (459, gz_lda 460 0), (460, gz_ldi 461 3), (461, gz_push 462 (gz_i 1)), (462, gz_iop 463 (fun x y => x + y)), (463, gz_ild 464 (l_ai L xs)), (464, gz_c1I 467 1 (fun u x => m_lend_p u.2 x) (fun u x => m_lend_r u.2 x) (fun u x => (u.1, m_lend_s u.2 x))), (467, gz_if2 470 703 (fun x y => x = y) (fun x y => ¬ x = y)), (470, gz_push 471 (gz_i 0)), (471, gz_iret), (472, gz_lda 473 1), (473, gz_lda 474 0), (474, gz_ldi 475 3), (475, gz_push 476 (gz_i 1)), (476, gz_iop 477 (fun x y => x + y)), (477, gz_ild 478 (l_ai L xs)), (478, gz_c1I 481 0 (fun u x => x_cancel_p u.1 x) (fun u x => x_cancel_r u.1 x) (fun u x => (x_cancel_s u.1 x, u.2))), (481, gz_lda 482 2), (482, gz_lda 483 0), (483, gz_ldi 484 3), (484, gz_push 485 (gz_i 1)), (485, gz_iop 486 (fun x y => x + y)), (486, gz_ild 487 (l_ai L xs)), (487, gz_c1I 490 1 (fun u x => m_cancel_p u.2 x) (fun u x => m_cancel_r u.2 x) (fun u x => (u.1, m_cancel_s u.2 x))), (490, gz_if2 493 703 (fun x y => x = y) (fun x y => ¬ x = y)), (493, gz_push 494 (gz_i 0)), (494, gz_iret), (495, gz_lda 496 1), (496, gz_lda 497 0), (497, gz_ldi 498 3), (498, gz_push 499 (gz_i 1)), (499, gz_iop 500 (fun x y => x + y)), (500, gz_ild 501 (l_ai L xs)), (501, gz_itol 502), (502, gz_push 504 (gz_i 32)), (504, gz_lsh 505 (fun x y => x <<< (y.toInt64 &&& 63))), (505, gz_lda 506 0), (506, gz_ldi 507 3), (507, gz_push 508 (gz_i 2)), (508, gz_iop 509 (fun x y => x + y)), (509, gz_ild 510 (l_ai L xs)), (510, gz_itol 511), (511, gz_push 514 (gz_l 4294967295)), (514, gz_lop 515 (fun x y => x &&& y)), (515, gz_lop 516 (fun x y => x ||| y)), (516, gz_clI 519 0 (fun u x => x_tick_p u.1 x) (fun u x => x_tick_r u.1 x) (fun u x => (x_tick_s u.1 x, u.2))), (519, gz_lda 520 2), (520, gz_lda 521 0), (521, gz_ldi 522 3), (522, gz_push 523 (gz_i 1)), (523, gz_iop 524 (fun x y => x + y)), (524, gz_ild 525 (l_ai L xs)), (525, gz_itol 526), (526, gz_push 528 (gz_i 32)), (528, gz_lsh 529 (fun x y => x <<< (y.toInt64 &&& 63))), (529, gz_lda 530 0), (530, gz_ldi 531 3), (531, gz_push 532 (gz_i 2)), (532, gz_iop 533 (fun x y => x + y)), (533, gz_ild 534 (l_ai L xs)), (534, gz_itol 535), (535, gz_push 538 (gz_l 4294967295)), (538, gz_lop 539 (fun x y => x &&& y)), (539, gz_lop 540 (fun x y => x ||| y)), (540, gz_clI 543 1 (fun u x => m_tick_p u.2 x) (fun u x => m_tick_r u.2 x) (fun u x => (u.1, m_tick_s u.2 x))), (543, gz_if2 546 703 (fun x y => x = y) (fun x y => ¬ x = y)), (546, gz_push 547 (gz_i 0)), (547, gz_iret), (548, gz_lda 549 1), (549, gz_lda 550 0), (550, gz_ldi 551 3), (551, gz_push 552 (gz_i 1)), (552, gz_iop 553 (fun x y => x + y)), (553, gz_ild 554 (l_ai L xs)), (554, gz_c1I 557 0 (fun u x => x_span_p u.1 x) (fun u x => x_span_r u.1 x) (fun u x => (x_span_s u.1 x, u.2))), (557, gz_lda 558 2), (558, gz_lda 559 0), (559, gz_ldi 560 3), (560, gz_push 561 (gz_i 1)), (561, gz_iop 562 (fun x y => x + y)), (562, gz_ild 563 (l_ai L xs)), (563, gz_c1I 566 1 (fun u x => m_span_p u.2 x) (fun u x => m_span_r u.2 x) (fun u x => (u.1, m_span_s u.2 x))), (566, gz_if2 569 703 (fun x y => x = y) (fun x y => ¬ x = y)), (569, gz_push 570 (gz_i 0)), (570, gz_iret), (571, gz_lda 572 1), (572, gz_lda 573 0), (573, gz_ldi 574 3), (574, gz_push 575 (gz_i 1)), (575, gz_iop 576 (fun x y => x + y)), (576, gz_ild 577 (l_ai L xs)), (577, gz_lda 578 0), (578, gz_ldi 579 3), (579, gz_push 580 (gz_i 2)), (580, gz_iop 581 (fun x y => x + y)), (581, gz_ild 582 (l_ai L xs)), (582, gz_c2I 585 0 (fun u x y => x_rank_p u.1 x y) (fun u x y => x_rank_r u.1 x y) (fun u x y => (x_rank_s u.1 x y, u.2))), (585, gz_lda 586 2), (586, gz_lda 587 0), (587, gz_ldi 588 3), (588, gz_push 589 (gz_i 1)), (589, gz_iop 590 (fun x y => x + y)), (590, gz_ild 591 (l_ai L xs)), (591, gz_lda 592 0), (592, gz_ldi 593 3), (593, gz_push 594 (gz_i 2)), (594, gz_iop 595 (fun x y => x + y)), (595, gz_ild 596 (l_ai L xs)), (596, gz_c2I 599 1 (fun u x y => m_rank_p u.2 x y) (fun u x y => m_rank_r u.2 x y) (fun u x y => (u.1, m_rank_s u.2 x y))), (599, gz_if2 602 703 (fun x y => x = y) (fun x y => ¬ x = y)), (602, gz_push 603 (gz_i 0)), (603, gz_iret), (604, gz_lda 605 1), (605, gz_lda 606 0), (606, gz_ldi 607 3), (607, gz_push 608 (gz_i 1)), (608, gz_iop 609 (fun x y => x + y)), (609, gz_ild 610 (l_ai L xs)), (610, gz_lda 611 0), (611, gz_ldi 612 3), (612, gz_push 613 (gz_i 2)), (613, gz_iop 614 (fun x y => x + y)), (614, gz_ild 615 (l_ai L xs)), (615, gz_c2I 618 0 (fun u x y => x_order_p u.1 x y) (fun u x y => x_order u.1 x y) (fun u x y => u)), (618, gz_lda 619 2), (619, gz_lda 620 0), (620, gz_ldi 621 3), (621, gz_push 622 (gz_i 1)), (622, gz_iop 623 (fun x y => x + y)), (623, gz_ild 624 (l_ai L xs)), (624, gz_lda 625 0), (625, gz_ldi 626 3), (626, gz_push 627 (gz_i 2)), (627, gz_iop 628 (fun x y => x + y)), (628, gz_ild 629 (l_ai L xs)), (629, gz_c2I 632 1 (fun u x y => m_order_p u.2 x y) (fun u x y => m_order_r u.2 x y) (fun u x y => (u.1, m_order_s u.2 x y))), (632, gz_if2 635 703 (fun x y => x = y) (fun x y => ¬ x = y)), (635, gz_push 636 (gz_i 0)), (636, gz_iret), (637, gz_lda 638 1), (638, gz_lda 639 0), (639, gz_ldi 640 3), (640, gz_push 641 (gz_i 1)), (641, gz_iop 642 (fun x y => x + y)), (642, gz_ild 643 (l_ai L xs)), (643, gz_lda 644 0), (644, gz_ldi 645 3), (645, gz_push 646 (gz_i 2)), (646, gz_iop 647 (fun x y => x + y)), (647, gz_ild 648 (l_ai L xs)), (648, gz_c2I 651 0 (fun u x y => x_state_p u.1 x y) (fun u x y => x_state u.1 x y) (fun u x y => u)), (651, gz_lda 652 2), (652, gz_lda 653 0), (653, gz_ldi 654 3), (654, gz_push 655 (gz_i 1)), (655, gz_iop 656 (fun x y => x + y)), (656, gz_ild 657 (l_ai L xs)), (657, gz_lda 658 0), (658, gz_ldi 659 3), (659, gz_push 660 (gz_i 2)), (660, gz_iop 661 (fun x y => x + y)), (661, gz_ild 662 (l_ai L xs)), (662, gz_c2I 665 1 (fun u x y => m_state_p u.2 x y) (fun u x y => m_state_r u.2 x y) (fun u x y => (u.1, m_state_s u.2 x y))), (665, gz_if2 668 703 (fun x y => x = y) (fun x y => ¬ x = y)), (668, gz_push 669 (gz_i 0)), (669, gz_iret), (670, gz_lda 671 1), (671, gz_lda 672 0), (672, gz_ldi 673 3), (673, gz_push 674 (gz_i 1)), (674, gz_iop 675 (fun x y => x + y)), (675, gz_ild 676 (l_ai L xs)), (676, gz_lda 677 0), (677, gz_ldi 678 3), (678, gz_push 679 (gz_i 2)), (679, gz_iop 680 (fun x y => x + y)), (680, gz_ild 681 (l_ai L xs)), (681, gz_c2I 684 0 (fun u x y => x_where_p u.1 x y) (fun u x y => x_where u.1 x y) (fun u x y => u)), (684, gz_lda 685 2), (685, gz_lda 686 0), (686, gz_ldi 687 3), (687, gz_push 688 (gz_i 1)), (688, gz_iop 689 (fun x y => x + y)), (689, gz_ild 690 (l_ai L xs)), (690, gz_lda 691 0), (691, gz_ldi 692 3), (692, gz_push 693 (gz_i 2)), (693, gz_iop 694 (fun x y => x + y)), (694, gz_ild 695 (l_ai L xs)), (695, gz_c2I 698 1 (fun u x y => m_where_p u.2 x y) (fun u x y => m_where_r u.2 x y) (fun u x y => (u.1, m_where_s u.2 x y))), (698, gz_if2 701 703 (fun x y => x = y) (fun x y => ¬ x = y)), (701, gz_push 702 (gz_i 0)), (702, gz_iret), (703, gz_iinc 706 3 5), (706, gz_goto 18), (709, gz_push 710 (gz_i 1)), (710, gz_iret)]
set_option maxRecDepth 100000 in
set_option maxHeartbeats 16000000 in
theorem l_d {L : Nat} {xs : Nat → Int32} {Kr : Option Int32 → q_S × q_S → Prop} {Z : gz_K (q_S × q_S)} (hZ : gz_shut (l_t L xs) Kr Z) (hL : L ≤ 5) (h1 : ∀ u, Kr (some 1) u) : ∀ (n k : Nat) (u : q_S × q_S), (k = 0 → q_Rel1 u.1 u.2) → k ≤ L + 4 → L + 4 < k + n → Z 18 [(0, gz_r 2), (1, gz_r 0), (2, gz_r 1), (3, gz_i (nI k))] [] u := by
  intro n
  induction n with
  | zero => intro k u _ a b; omega
  | succ n ih =>
  intro k u hR0 hk hn
  refine hZ.1 [18] 500 18 _ _ _ ?_
  refine And.intro (fun (_ : Int32.ofNat L - 5 < nI k) => h1 u) (fun (hlt : ¬ Int32.ofNat L - 5 < nI k) => ?_)
  have h5 : k + 5 ≤ L := l_fit (by omega) (by omega) hlt
  have hk0 : k = 0 := by omega
  have hR := hR0 hk0
  have e5 : nI k + 5 = nI (k + 5) := nI_add k 5
  have hv0 : vp_in (nI k) L := vp_in_nI (by omega) (by omega)
  have hv1 : vp_in (nI k + 1) L := by rw [show nI k + 1 = nI (k + 1) from nI_add k 1]; exact vp_in_nI (by omega) (by omega)
  have hv2 : vp_in (nI k + 2) L := by rw [show nI k + 2 = nI (k + 2) from nI_add k 2]; exact vp_in_nI (by omega) (by omega)
  have hv3 : vp_in (nI k + 3) L := by rw [show nI k + 3 = nI (k + 3) from nI_add k 3]; exact vp_in_nI (by omega) (by omega)
  have hv4 : vp_in (nI k + 4) L := by rw [show nI k + 4 = nI (k + 4) from nI_add k 4]; exact vp_in_nI (by omega) (by omega)
  have back : ∀ z : q_S × q_S, Z 18 [(0, gz_r 2), (1, gz_r 0), (2, gz_r 1), (3, gz_i (nI k + 5))] [] z := fun z => by rw [e5]; exact ih (k + 5) z (fun h => by omega) (by omega) (by omega)
  refine And.intro hv0 ?_
  refine And.intro (fun _ => ?_) (fun _ => ?_)
  · refine And.intro hv1 ?_
    refine And.intro (rel1_record hR (xs (Int32.toNatClampNeg ((nI k) + 1)))).1 ?_
    refine And.intro hv1 ?_
    refine And.intro (rel1_record hR (xs (Int32.toNatClampNeg ((nI k) + 1)))).2.1 ?_
    refine And.intro (fun _ => ?_) (fun h => absurd (rel1_record hR (xs (Int32.toNatClampNeg ((nI k) + 1)))).2.2.1 h)
    exact back _
  refine And.intro (fun _ => ?_) (fun _ => ?_)
  · refine And.intro hv1 ?_
    refine And.intro hv2 ?_
    refine And.intro (rel1_copy hR (xs (Int32.toNatClampNeg ((nI k) + 1))) (xs (Int32.toNatClampNeg ((nI k) + 2)))).1 ?_
    refine And.intro hv1 ?_
    refine And.intro hv2 ?_
    refine And.intro (rel1_copy hR (xs (Int32.toNatClampNeg ((nI k) + 1))) (xs (Int32.toNatClampNeg ((nI k) + 2)))).2.1 ?_
    refine And.intro (fun _ => ?_) (fun h => absurd (rel1_copy hR (xs (Int32.toNatClampNeg ((nI k) + 1))) (xs (Int32.toNatClampNeg ((nI k) + 2)))).2.2.1 h)
    exact back _
  refine And.intro (fun _ => ?_) (fun _ => ?_)
  · refine And.intro hv1 ?_
    refine And.intro hv2 ?_
    refine And.intro (fun (hz183 : (xs (Int32.toNatClampNeg ((nI k) + 2))) = 0) => ?_) (fun (hz183 : ¬ (xs (Int32.toNatClampNeg ((nI k) + 2))) = 0) => ?_)
    · refine And.intro (rel1_bar hR (xs (Int32.toNatClampNeg ((nI k) + 1))) 0).1 ?_
      refine And.intro hv1 ?_
      refine And.intro hv2 ?_
      refine And.intro (fun _ => ?_) (fun (h : ¬ (xs (Int32.toNatClampNeg ((nI k) + 2))) = 0) => absurd hz183 h)
      refine And.intro (rel1_bar hR (xs (Int32.toNatClampNeg ((nI k) + 1))) 0).2.1 ?_
      refine And.intro (fun _ => ?_) (fun h => absurd (rel1_bar hR (xs (Int32.toNatClampNeg ((nI k) + 1))) 0).2.2.1 h)
      exact back _
    · refine And.intro (rel1_bar hR (xs (Int32.toNatClampNeg ((nI k) + 1))) 1).1 ?_
      refine And.intro hv1 ?_
      refine And.intro hv2 ?_
      refine And.intro (fun (h : (xs (Int32.toNatClampNeg ((nI k) + 2))) = 0) => absurd h hz183) (fun _ => ?_)
      refine And.intro (rel1_bar hR (xs (Int32.toNatClampNeg ((nI k) + 1))) 1).2.1 ?_
      refine And.intro (fun _ => ?_) (fun h => absurd (rel1_bar hR (xs (Int32.toNatClampNeg ((nI k) + 1))) 1).2.2.1 h)
      exact back _
  refine And.intro (fun _ => ?_) (fun _ => ?_)
  · refine And.intro hv1 ?_
    refine And.intro hv2 ?_
    refine And.intro hv3 ?_
    refine And.intro hv4 ?_
    refine And.intro (rel1_hold hR (xs (Int32.toNatClampNeg ((nI k) + 1))) (xs (Int32.toNatClampNeg ((nI k) + 2))) (xs (Int32.toNatClampNeg ((nI k) + 3))) (xs (Int32.toNatClampNeg ((nI k) + 4)))).1 ?_
    refine And.intro hv1 ?_
    refine And.intro hv2 ?_
    refine And.intro hv3 ?_
    refine And.intro hv4 ?_
    refine And.intro (rel1_hold hR (xs (Int32.toNatClampNeg ((nI k) + 1))) (xs (Int32.toNatClampNeg ((nI k) + 2))) (xs (Int32.toNatClampNeg ((nI k) + 3))) (xs (Int32.toNatClampNeg ((nI k) + 4)))).2.1 ?_
    refine And.intro (fun _ => ?_) (fun h => absurd (rel1_hold hR (xs (Int32.toNatClampNeg ((nI k) + 1))) (xs (Int32.toNatClampNeg ((nI k) + 2))) (xs (Int32.toNatClampNeg ((nI k) + 3))) (xs (Int32.toNatClampNeg ((nI k) + 4)))).2.2.1 h)
    exact back _
  refine And.intro (fun _ => ?_) (fun _ => ?_)
  · refine And.intro hv1 ?_
    refine And.intro hv2 ?_
    refine And.intro (rel1_most hR (xs (Int32.toNatClampNeg ((nI k) + 1))) (xs (Int32.toNatClampNeg ((nI k) + 2)))).1 ?_
    refine And.intro hv1 ?_
    refine And.intro hv2 ?_
    refine And.intro (rel1_most hR (xs (Int32.toNatClampNeg ((nI k) + 1))) (xs (Int32.toNatClampNeg ((nI k) + 2)))).2.1 ?_
    refine And.intro (fun _ => ?_) (fun h => absurd (rel1_most hR (xs (Int32.toNatClampNeg ((nI k) + 1))) (xs (Int32.toNatClampNeg ((nI k) + 2)))).2.2.1 h)
    exact back _
  refine And.intro (fun _ => ?_) (fun _ => ?_)
  · refine And.intro hv1 ?_
    refine And.intro hv2 ?_
    refine And.intro hv3 ?_
    refine And.intro (rel1_suspend hR (xs (Int32.toNatClampNeg ((nI k) + 1))) (((Int32.toInt64 (xs (Int32.toNatClampNeg ((nI k) + 2)))) <<< (Int32.toInt64 32 &&& 63)) ||| ((Int32.toInt64 (xs (Int32.toNatClampNeg ((nI k) + 3)))) &&& 4294967295))).1 ?_
    refine And.intro hv1 ?_
    refine And.intro hv2 ?_
    refine And.intro hv3 ?_
    refine And.intro (rel1_suspend hR (xs (Int32.toNatClampNeg ((nI k) + 1))) (((Int32.toInt64 (xs (Int32.toNatClampNeg ((nI k) + 2)))) <<< (Int32.toInt64 32 &&& 63)) ||| ((Int32.toInt64 (xs (Int32.toNatClampNeg ((nI k) + 3)))) &&& 4294967295))).2.1 ?_
    refine And.intro (fun _ => ?_) (fun h => absurd (rel1_suspend hR (xs (Int32.toNatClampNeg ((nI k) + 1))) (((Int32.toInt64 (xs (Int32.toNatClampNeg ((nI k) + 2)))) <<< (Int32.toInt64 32 &&& 63)) ||| ((Int32.toInt64 (xs (Int32.toNatClampNeg ((nI k) + 3)))) &&& 4294967295))).2.2.1 h)
    exact back _
  refine And.intro (fun _ => ?_) (fun _ => ?_)
  · refine And.intro hv1 ?_
    refine And.intro hv2 ?_
    refine And.intro (rel1_back hR (xs (Int32.toNatClampNeg ((nI k) + 1))) (xs (Int32.toNatClampNeg ((nI k) + 2)))).1 ?_
    refine And.intro hv1 ?_
    refine And.intro hv2 ?_
    refine And.intro (rel1_back hR (xs (Int32.toNatClampNeg ((nI k) + 1))) (xs (Int32.toNatClampNeg ((nI k) + 2)))).2.1 ?_
    refine And.intro (fun _ => ?_) (fun h => absurd (rel1_back hR (xs (Int32.toNatClampNeg ((nI k) + 1))) (xs (Int32.toNatClampNeg ((nI k) + 2)))).2.2.1 h)
    exact back _
  refine And.intro (fun _ => ?_) (fun _ => ?_)
  · refine And.intro hv1 ?_
    refine And.intro (rel1_arrive hR (xs (Int32.toNatClampNeg ((nI k) + 1)))).1 ?_
    refine And.intro hv1 ?_
    refine And.intro (rel1_arrive hR (xs (Int32.toNatClampNeg ((nI k) + 1)))).2.1 ?_
    refine And.intro (fun _ => ?_) (fun h => absurd (rel1_arrive hR (xs (Int32.toNatClampNeg ((nI k) + 1)))).2.2.1 h)
    exact back _
  refine And.intro (fun _ => ?_) (fun _ => ?_)
  · refine And.intro hv1 ?_
    refine And.intro (rel1_pick hR (xs (Int32.toNatClampNeg ((nI k) + 1)))).1 ?_
    refine And.intro hv1 ?_
    refine And.intro (rel1_pick hR (xs (Int32.toNatClampNeg ((nI k) + 1)))).2.1 ?_
    refine And.intro (fun _ => ?_) (fun h => absurd (rel1_pick hR (xs (Int32.toNatClampNeg ((nI k) + 1)))).2.2.1 h)
    exact back _
  refine And.intro (fun _ => ?_) (fun _ => ?_)
  · refine And.intro hv1 ?_
    refine And.intro (rel1_lend hR (xs (Int32.toNatClampNeg ((nI k) + 1)))).1 ?_
    refine And.intro hv1 ?_
    refine And.intro (rel1_lend hR (xs (Int32.toNatClampNeg ((nI k) + 1)))).2.1 ?_
    refine And.intro (fun _ => ?_) (fun h => absurd (rel1_lend hR (xs (Int32.toNatClampNeg ((nI k) + 1)))).2.2.1 h)
    exact back _
  refine And.intro (fun _ => ?_) (fun _ => ?_)
  · refine And.intro hv1 ?_
    refine And.intro (rel1_cancel hR (xs (Int32.toNatClampNeg ((nI k) + 1)))).1 ?_
    refine And.intro hv1 ?_
    refine And.intro (rel1_cancel hR (xs (Int32.toNatClampNeg ((nI k) + 1)))).2.1 ?_
    refine And.intro (fun _ => ?_) (fun h => absurd (rel1_cancel hR (xs (Int32.toNatClampNeg ((nI k) + 1)))).2.2.1 h)
    exact back _
  refine And.intro (fun _ => ?_) (fun _ => ?_)
  · refine And.intro hv1 ?_
    refine And.intro hv2 ?_
    refine And.intro (rel1_tick hR (((Int32.toInt64 (xs (Int32.toNatClampNeg ((nI k) + 1)))) <<< (Int32.toInt64 32 &&& 63)) ||| ((Int32.toInt64 (xs (Int32.toNatClampNeg ((nI k) + 2)))) &&& 4294967295))).1 ?_
    refine And.intro hv1 ?_
    refine And.intro hv2 ?_
    refine And.intro (rel1_tick hR (((Int32.toInt64 (xs (Int32.toNatClampNeg ((nI k) + 1)))) <<< (Int32.toInt64 32 &&& 63)) ||| ((Int32.toInt64 (xs (Int32.toNatClampNeg ((nI k) + 2)))) &&& 4294967295))).2.1 ?_
    refine And.intro (fun _ => ?_) (fun h => absurd (rel1_tick hR (((Int32.toInt64 (xs (Int32.toNatClampNeg ((nI k) + 1)))) <<< (Int32.toInt64 32 &&& 63)) ||| ((Int32.toInt64 (xs (Int32.toNatClampNeg ((nI k) + 2)))) &&& 4294967295))).2.2.1 h)
    exact back _
  refine And.intro (fun _ => ?_) (fun _ => ?_)
  · refine And.intro hv1 ?_
    refine And.intro (rel1_span hR (xs (Int32.toNatClampNeg ((nI k) + 1)))).1 ?_
    refine And.intro hv1 ?_
    refine And.intro (rel1_span hR (xs (Int32.toNatClampNeg ((nI k) + 1)))).2.1 ?_
    refine And.intro (fun _ => ?_) (fun h => absurd (rel1_span hR (xs (Int32.toNatClampNeg ((nI k) + 1)))).2.2.1 h)
    exact back _
  refine And.intro (fun _ => ?_) (fun _ => ?_)
  · refine And.intro hv1 ?_
    refine And.intro hv2 ?_
    refine And.intro (rel1_rank hR (xs (Int32.toNatClampNeg ((nI k) + 1))) (xs (Int32.toNatClampNeg ((nI k) + 2)))).1 ?_
    refine And.intro hv1 ?_
    refine And.intro hv2 ?_
    refine And.intro (rel1_rank hR (xs (Int32.toNatClampNeg ((nI k) + 1))) (xs (Int32.toNatClampNeg ((nI k) + 2)))).2.1 ?_
    refine And.intro (fun _ => ?_) (fun h => absurd (rel1_rank hR (xs (Int32.toNatClampNeg ((nI k) + 1))) (xs (Int32.toNatClampNeg ((nI k) + 2)))).2.2.1 h)
    exact back _
  refine And.intro (fun _ => ?_) (fun _ => ?_)
  · refine And.intro hv1 ?_
    refine And.intro hv2 ?_
    refine And.intro (rel1_order hR (xs (Int32.toNatClampNeg ((nI k) + 1))) (xs (Int32.toNatClampNeg ((nI k) + 2)))).1 ?_
    refine And.intro hv1 ?_
    refine And.intro hv2 ?_
    refine And.intro (rel1_order hR (xs (Int32.toNatClampNeg ((nI k) + 1))) (xs (Int32.toNatClampNeg ((nI k) + 2)))).2.1 ?_
    refine And.intro (fun _ => ?_) (fun h => absurd (rel1_order hR (xs (Int32.toNatClampNeg ((nI k) + 1))) (xs (Int32.toNatClampNeg ((nI k) + 2)))).2.2.1 h)
    exact back _
  refine And.intro (fun _ => ?_) (fun _ => ?_)
  · refine And.intro hv1 ?_
    refine And.intro hv2 ?_
    refine And.intro (rel1_state hR (xs (Int32.toNatClampNeg ((nI k) + 1))) (xs (Int32.toNatClampNeg ((nI k) + 2)))).1 ?_
    refine And.intro hv1 ?_
    refine And.intro hv2 ?_
    refine And.intro (rel1_state hR (xs (Int32.toNatClampNeg ((nI k) + 1))) (xs (Int32.toNatClampNeg ((nI k) + 2)))).2.1 ?_
    refine And.intro (fun _ => ?_) (fun h => absurd (rel1_state hR (xs (Int32.toNatClampNeg ((nI k) + 1))) (xs (Int32.toNatClampNeg ((nI k) + 2)))).2.2.1 h)
    exact back _
  refine And.intro (fun _ => ?_) (fun _ => ?_)
  · refine And.intro hv1 ?_
    refine And.intro hv2 ?_
    refine And.intro (rel1_where hR (xs (Int32.toNatClampNeg ((nI k) + 1))) (xs (Int32.toNatClampNeg ((nI k) + 2)))).1 ?_
    refine And.intro hv1 ?_
    refine And.intro hv2 ?_
    refine And.intro (rel1_where hR (xs (Int32.toNatClampNeg ((nI k) + 1))) (xs (Int32.toNatClampNeg ((nI k) + 2)))).2.1 ?_
    refine And.intro (fun _ => ?_) (fun h => absurd (rel1_where hR (xs (Int32.toNatClampNeg ((nI k) + 1))) (xs (Int32.toNatClampNeg ((nI k) + 2)))).2.2.1 h)
    exact back _
  exact back u
