/-- the law's own: its script at the cell 2, of length L -/
def l_ai (L : Nat) (xs : Nat → Int32) : gz_AI (q_S × q_S) := fun j k => match j with
  | 2 => k L (fun _ => xs) (fun u _ _ => u)
  | _ => False
theorem l_fit {L k : Nat} (hL : L ≤ 2560) (hk : k ≤ 2600) (h : ¬ Int32.ofNat L - 5 < nI k) : k + 5 ≤ L := by
  have e1 : (nI L - nI 5).toInt = (L : Int) - (5 : Nat) := pk_sub_toInt (by omega) (by omega)
  have e2 : (nI k).toInt = (k : Int) := nI_toInt (by omega)
  have h2 : ¬ nI L - nI 5 < nI k := h
  rw [Int32.lt_iff_toInt_lt, e1, e2] at h2
  omega
def l_t (L : Nat) (xs : Nat → Int32) : List (Nat × gz_T (q_S × q_S)) := [(18, gz_ldi 19 3), (19, gz_lda 20 0), (20, gz_alen 21 2 (Int32.ofNat L)), (21, gz_push 22 (gz_i 5)), (22, gz_iop 23 (fun x y => x - y)), (23, gz_if2 26 709 (fun x y => y < x) (fun x y => ¬ y < x)), (26, gz_lda 27 0), (27, gz_ldi 28 3), (28, gz_ild 29 (l_ai L xs)), (29, gz_push 31 (gz_i 31)), (31, gz_iop 32 (fun x y => x &&& y)), (32, gz_sw [(0, 116), (1, 139), (2, 172), (3, 221), (4, 274), (5, 307), (6, 370), (7, 403), (8, 426), (9, 449), (10, 472), (11, 495), (12, 548), (13, 571), (14, 604), (15, 637), (16, 670)] 703), (116, gz_lda 117 1), (117, gz_lda 118 0), (118, gz_ldi 119 3), (119, gz_push 120 (gz_i 1)), (120, gz_iop 121 (fun x y => x + y)), (121, gz_ild 122 (l_ai L xs)), (122, gz_c1I 125 0 (fun u x => x_record_p u.1 x) (fun u x => x_record_r u.1 x) (fun u x => (x_record_s u.1 x, u.2))), (125, gz_pop 126), (126, gz_lda 127 2), (127, gz_lda 128 0), (128, gz_ldi 129 3), (129, gz_push 130 (gz_i 1)), (130, gz_iop 131 (fun x y => x + y)), (131, gz_ild 132 (l_ai L xs)), (132, gz_c1I 135 1 (fun u x => m_record_p u.2 x) (fun u x => m_record_r u.2 x) (fun u x => (u.1, m_record_s u.2 x))), (135, gz_pop 136), (136, gz_goto 703), (139, gz_lda 140 1), (140, gz_lda 141 0), (141, gz_ldi 142 3), (142, gz_push 143 (gz_i 1)), (143, gz_iop 144 (fun x y => x + y)), (144, gz_ild 145 (l_ai L xs)), (145, gz_lda 146 0), (146, gz_ldi 147 3), (147, gz_push 148 (gz_i 2)), (148, gz_iop 149 (fun x y => x + y)), (149, gz_ild 150 (l_ai L xs)), (150, gz_c2I 153 0 (fun u x y => x_copy_p u.1 x y) (fun u x y => x_copy_r u.1 x y) (fun u x y => (x_copy_s u.1 x y, u.2))), (153, gz_pop 154), (154, gz_lda 155 2), (155, gz_lda 156 0), (156, gz_ldi 157 3), (157, gz_push 158 (gz_i 1)), (158, gz_iop 159 (fun x y => x + y)), (159, gz_ild 160 (l_ai L xs)), (160, gz_lda 161 0), (161, gz_ldi 162 3), (162, gz_push 163 (gz_i 2)), (163, gz_iop 164 (fun x y => x + y)), (164, gz_ild 165 (l_ai L xs)), (165, gz_c2I 168 1 (fun u x y => m_copy_p u.2 x y) (fun u x y => m_copy_r u.2 x y) (fun u x y => (u.1, m_copy_s u.2 x y))), (168, gz_pop 169), (169, gz_goto 703), (172, gz_lda 173 1), (173, gz_lda 174 0), (174, gz_ldi 175 3), (175, gz_push 176 (gz_i 1)), (176, gz_iop 177 (fun x y => x + y)), (177, gz_ild 178 (l_ai L xs)), (178, gz_lda 179 0), (179, gz_ldi 180 3), (180, gz_push 181 (gz_i 2)), (181, gz_iop 182 (fun x y => x + y)), (182, gz_ild 183 (l_ai L xs)), (183, gz_if 186 190 (fun x => x = 0) (fun x => ¬ x = 0)), (186, gz_push 187 (gz_i 1)), (187, gz_goto 191), (190, gz_push 191 (gz_i 0)), (191, gz_c2I 194 0 (fun u x y => x_bar_p u.1 x y) (fun u x y => x_bar_r u.1 x y) (fun u x y => (x_bar_s u.1 x y, u.2))), (194, gz_pop 195), (195, gz_lda 196 2), (196, gz_lda 197 0), (197, gz_ldi 198 3), (198, gz_push 199 (gz_i 1)), (199, gz_iop 200 (fun x y => x + y)), (200, gz_ild 201 (l_ai L xs)), (201, gz_lda 202 0), (202, gz_ldi 203 3), (203, gz_push 204 (gz_i 2)), (204, gz_iop 205 (fun x y => x + y)), (205, gz_ild 206 (l_ai L xs)), (206, gz_if 209 213 (fun x => x = 0) (fun x => ¬ x = 0)), (209, gz_push 210 (gz_i 1)), (210, gz_goto 214), (213, gz_push 214 (gz_i 0)), (214, gz_c2I 217 1 (fun u x y => m_bar_p u.2 x y) (fun u x y => m_bar_r u.2 x y) (fun u x y => (u.1, m_bar_s u.2 x y))), (217, gz_pop 218), (218, gz_goto 703), (221, gz_lda 222 1), (222, gz_lda 223 0), (223, gz_ldi 224 3), (224, gz_push 225 (gz_i 1)), (225, gz_iop 226 (fun x y => x + y)), (226, gz_ild 227 (l_ai L xs)), (227, gz_lda 228 0), (228, gz_ldi 229 3), (229, gz_push 230 (gz_i 2)), (230, gz_iop 231 (fun x y => x + y)), (231, gz_ild 232 (l_ai L xs)), (232, gz_lda 233 0), (233, gz_ldi 234 3), (234, gz_push 235 (gz_i 3)), (235, gz_iop 236 (fun x y => x + y)), (236, gz_ild 237 (l_ai L xs)), (237, gz_lda 238 0), (238, gz_ldi 239 3), (239, gz_push 240 (gz_i 4)), (240, gz_iop 241 (fun x y => x + y)), (241, gz_ild 242 (l_ai L xs)), (242, gz_c4I 245 0 (fun u x y z w => x_hold_p u.1 x y z w) (fun u x y z w => x_hold_r u.1 x y z w) (fun u x y z w => (x_hold_s u.1 x y z w, u.2))), (245, gz_pop 246), (246, gz_lda 247 2), (247, gz_lda 248 0), (248, gz_ldi 249 3), (249, gz_push 250 (gz_i 1)), (250, gz_iop 251 (fun x y => x + y)), (251, gz_ild 252 (l_ai L xs)), (252, gz_lda 253 0), (253, gz_ldi 254 3), (254, gz_push 255 (gz_i 2)), (255, gz_iop 256 (fun x y => x + y)), (256, gz_ild 257 (l_ai L xs)), (257, gz_lda 258 0), (258, gz_ldi 259 3), (259, gz_push 260 (gz_i 3)), (260, gz_iop 261 (fun x y => x + y)), (261, gz_ild 262 (l_ai L xs)), (262, gz_lda 263 0), (263, gz_ldi 264 3), (264, gz_push 265 (gz_i 4)), (265, gz_iop 266 (fun x y => x + y)), (266, gz_ild 267 (l_ai L xs)), (267, gz_c4I 270 1 (fun u x y z w => m_hold_p u.2 x y z w) (fun u x y z w => m_hold_r u.2 x y z w) (fun u x y z w => (u.1, m_hold_s u.2 x y z w))), (270, gz_pop 271), (271, gz_goto 703), (274, gz_lda 275 1), (275, gz_lda 276 0), (276, gz_ldi 277 3), (277, gz_push 278 (gz_i 1)), (278, gz_iop 279 (fun x y => x + y)), (279, gz_ild 280 (l_ai L xs)), (280, gz_lda 281 0), (281, gz_ldi 282 3), (282, gz_push 283 (gz_i 2)), (283, gz_iop 284 (fun x y => x + y)), (284, gz_ild 285 (l_ai L xs)), (285, gz_c2I 288 0 (fun u x y => x_most_p u.1 x y) (fun u x y => x_most_r u.1 x y) (fun u x y => (x_most_s u.1 x y, u.2))), (288, gz_pop 289), (289, gz_lda 290 2), (290, gz_lda 291 0), (291, gz_ldi 292 3), (292, gz_push 293 (gz_i 1)), (293, gz_iop 294 (fun x y => x + y)), (294, gz_ild 295 (l_ai L xs)), (295, gz_lda 296 0), (296, gz_ldi 297 3), (297, gz_push 298 (gz_i 2)), (298, gz_iop 299 (fun x y => x + y)), (299, gz_ild 300 (l_ai L xs)), (300, gz_c2I 303 1 (fun u x y => m_most_p u.2 x y) (fun u x y => m_most_r u.2 x y) (fun u x y => (u.1, m_most_s u.2 x y))), (303, gz_pop 304), (304, gz_goto 703), (307, gz_lda 308 1), (308, gz_lda 309 0), (309, gz_ldi 310 3), (310, gz_push 311 (gz_i 1)), (311, gz_iop 312 (fun x y => x + y)), (312, gz_ild 313 (l_ai L xs)), (313, gz_lda 314 0), (314, gz_ldi 315 3), (315, gz_push 316 (gz_i 2)), (316, gz_iop 317 (fun x y => x + y)), (317, gz_ild 318 (l_ai L xs)), (318, gz_itol 319), (319, gz_push 321 (gz_i 32)), (321, gz_lsh 322 (fun x y => x <<< (y.toInt64 &&& 63))), (322, gz_lda 323 0), (323, gz_ldi 324 3), (324, gz_push 325 (gz_i 3)), (325, gz_iop 326 (fun x y => x + y)), (326, gz_ild 327 (l_ai L xs)), (327, gz_itol 328), (328, gz_push 331 (gz_l 4294967295)), (331, gz_lop 332 (fun x y => x &&& y)), (332, gz_lop 333 (fun x y => x ||| y)), (333, gz_c1lI 336 0 (fun u x y => x_suspend_p u.1 x y) (fun u x y => x_suspend_r u.1 x y) (fun u x y => (x_suspend_s u.1 x y, u.2))), (336, gz_pop 337), (337, gz_lda 338 2), (338, gz_lda 339 0), (339, gz_ldi 340 3), (340, gz_push 341 (gz_i 1)), (341, gz_iop 342 (fun x y => x + y)), (342, gz_ild 343 (l_ai L xs)), (343, gz_lda 344 0), (344, gz_ldi 345 3), (345, gz_push 346 (gz_i 2)), (346, gz_iop 347 (fun x y => x + y)), (347, gz_ild 348 (l_ai L xs)), (348, gz_itol 349), (349, gz_push 351 (gz_i 32)), (351, gz_lsh 352 (fun x y => x <<< (y.toInt64 &&& 63))), (352, gz_lda 353 0), (353, gz_ldi 354 3), (354, gz_push 355 (gz_i 3)), (355, gz_iop 356 (fun x y => x + y)), (356, gz_ild 357 (l_ai L xs)), (357, gz_itol 358), (358, gz_push 361 (gz_l 4294967295)), (361, gz_lop 362 (fun x y => x &&& y)), (362, gz_lop 363 (fun x y => x ||| y)), (363, gz_c1lI 366 1 (fun u x y => m_suspend_p u.2 x y) (fun u x y => m_suspend_r u.2 x y) (fun u x y => (u.1, m_suspend_s u.2 x y))), (366, gz_pop 367), (367, gz_goto 703), (370, gz_lda 371 1), (371, gz_lda 372 0), (372, gz_ldi 373 3), (373, gz_push 374 (gz_i 1)), (374, gz_iop 375 (fun x y => x + y)), (375, gz_ild 376 (l_ai L xs)), (376, gz_lda 377 0), (377, gz_ldi 378 3), (378, gz_push 379 (gz_i 2)), (379, gz_iop 380 (fun x y => x + y)), (380, gz_ild 381 (l_ai L xs)), (381, gz_c2I 384 0 (fun u x y => x_back_p u.1 x y) (fun u x y => x_back_r u.1 x y) (fun u x y => (x_back_s u.1 x y, u.2))), (384, gz_pop 385), (385, gz_lda 386 2), (386, gz_lda 387 0), (387, gz_ldi 388 3), (388, gz_push 389 (gz_i 1)), (389, gz_iop 390 (fun x y => x + y)), (390, gz_ild 391 (l_ai L xs)), (391, gz_lda 392 0), (392, gz_ldi 393 3), (393, gz_push 394 (gz_i 2)), (394, gz_iop 395 (fun x y => x + y)), (395, gz_ild 396 (l_ai L xs)), (396, gz_c2I 399 1 (fun u x y => m_back_p u.2 x y) (fun u x y => m_back_r u.2 x y) (fun u x y => (u.1, m_back_s u.2 x y))), (399, gz_pop 400), (400, gz_goto 703), (403, gz_lda 404 1), (404, gz_lda 405 0), (405, gz_ldi 406 3), (406, gz_push 407 (gz_i 1)), (407, gz_iop 408 (fun x y => x + y)), (408, gz_ild 409 (l_ai L xs)), (409, gz_c1I 412 0 (fun u x => x_arrive_p u.1 x) (fun u x => x_arrive_r u.1 x) (fun u x => (x_arrive_s u.1 x, u.2))), (412, gz_pop 413), (413, gz_lda 414 2), (414, gz_lda 415 0), (415, gz_ldi 416 3), (416, gz_push 417 (gz_i 1)), (417, gz_iop 418 (fun x y => x + y)), (418, gz_ild 419 (l_ai L xs)), (419, gz_c1I 422 1 (fun u x => m_arrive_p u.2 x) (fun u x => m_arrive_r u.2 x) (fun u x => (u.1, m_arrive_s u.2 x))), (422, gz_pop 423), (423, gz_goto 703), (426, gz_lda 427 1), (427, gz_lda 428 0), (428, gz_ldi 429 3), (429, gz_push 430 (gz_i 1)), (430, gz_iop 431 (fun x y => x + y)), (431, gz_ild 432 (l_ai L xs)), (432, gz_c1I 435 0 (fun u x => x_pick_p u.1 x) (fun u x => x_pick_r u.1 x) (fun u x => (x_pick_s u.1 x, u.2))), (435, gz_pop 436), (436, gz_lda 437 2), (437, gz_lda 438 0), (438, gz_ldi 439 3), (439, gz_push 440 (gz_i 1)), (440, gz_iop 441 (fun x y => x + y)), (441, gz_ild 442 (l_ai L xs)), (442, gz_c1I 445 1 (fun u x => m_pick_p u.2 x) (fun u x => m_pick_r u.2 x) (fun u x => (u.1, m_pick_s u.2 x))), (445, gz_pop 446), (446, gz_goto 703), (449, gz_lda 450 1), (450, gz_lda 451 0), (451, gz_ldi 452 3), (452, gz_push 453 (gz_i 1)), (453, gz_iop 454 (fun x y => x + y)), (454, gz_ild 455 (l_ai L xs)), (455, gz_c1I 458 0 (fun u x => x_lend_p u.1 x) (fun u x => x_lend_r u.1 x) (fun u x => (x_lend_s u.1 x, u.2))), (458, gz_pop 459), (459, gz_lda 460 2), (460, gz_lda 461 0), (461, gz_ldi 462 3), (462, gz_push 463 (gz_i 1)), (463, gz_iop 464 (fun x y => x + y)), (464, gz_ild 465 (l_ai L xs)), (465, gz_c1I 468 1 (fun u x => m_lend_p u.2 x) (fun u x => m_lend_r u.2 x) (fun u x => (u.1, m_lend_s u.2 x))), (468, gz_pop 469), (469, gz_goto 703), (472, gz_lda 473 1), (473, gz_lda 474 0), (474, gz_ldi 475 3), (475, gz_push 476 (gz_i 1)), (476, gz_iop 477 (fun x y => x + y)), (477, gz_ild 478 (l_ai L xs)), (478, gz_c1I 481 0 (fun u x => x_cancel_p u.1 x) (fun u x => x_cancel_r u.1 x) (fun u x => (x_cancel_s u.1 x, u.2))), (481, gz_pop 482), (482, gz_lda 483 2), (483, gz_lda 484 0), (484, gz_ldi 485 3), (485, gz_push 486 (gz_i 1)), (486, gz_iop 487 (fun x y => x + y)), (487, gz_ild 488 (l_ai L xs)), (488, gz_c1I 491 1 (fun u x => m_cancel_p u.2 x) (fun u x => m_cancel_r u.2 x) (fun u x => (u.1, m_cancel_s u.2 x))), (491, gz_pop 492), (492, gz_goto 703), (495, gz_lda 496 1), (496, gz_lda 497 0), (497, gz_ldi 498 3), (498, gz_push 499 (gz_i 1)), (499, gz_iop 500 (fun x y => x + y)), (500, gz_ild 501 (l_ai L xs)), (501, gz_itol 502), (502, gz_push 504 (gz_i 32)), (504, gz_lsh 505 (fun x y => x <<< (y.toInt64 &&& 63))), (505, gz_lda 506 0), (506, gz_ldi 507 3), (507, gz_push 508 (gz_i 2)), (508, gz_iop 509 (fun x y => x + y)), (509, gz_ild 510 (l_ai L xs)), (510, gz_itol 511), (511, gz_push 514 (gz_l 4294967295)), (514, gz_lop 515 (fun x y => x &&& y)), (515, gz_lop 516 (fun x y => x ||| y)), (516, gz_clI 519 0 (fun u x => x_tick_p u.1 x) (fun u x => x_tick_r u.1 x) (fun u x => (x_tick_s u.1 x, u.2))), (519, gz_lda 520 2), (520, gz_lda 521 0), (521, gz_ldi 522 3), (522, gz_push 523 (gz_i 1)), (523, gz_iop 524 (fun x y => x + y)), (524, gz_ild 525 (l_ai L xs)), (525, gz_itol 526), (526, gz_push 528 (gz_i 32)), (528, gz_lsh 529 (fun x y => x <<< (y.toInt64 &&& 63))), (529, gz_lda 530 0), (530, gz_ldi 531 3), (531, gz_push 532 (gz_i 2)), (532, gz_iop 533 (fun x y => x + y)), (533, gz_ild 534 (l_ai L xs)), (534, gz_itol 535), (535, gz_push 538 (gz_l 4294967295)), (538, gz_lop 539 (fun x y => x &&& y)), (539, gz_lop 540 (fun x y => x ||| y)), (540, gz_clI 543 1 (fun u x => m_tick_p u.2 x) (fun u x => m_tick_r u.2 x) (fun u x => (u.1, m_tick_s u.2 x))), (543, gz_if2 546 703 (fun x y => x = y) (fun x y => ¬ x = y)), (546, gz_push 547 (gz_i 0)), (547, gz_iret), (548, gz_lda 549 1), (549, gz_lda 550 0), (550, gz_ldi 551 3), (551, gz_push 552 (gz_i 1)), (552, gz_iop 553 (fun x y => x + y)), (553, gz_ild 554 (l_ai L xs)), (554, gz_c1I 557 0 (fun u x => x_span_p u.1 x) (fun u x => x_span_r u.1 x) (fun u x => (x_span_s u.1 x, u.2))), (557, gz_pop 558), (558, gz_lda 559 2), (559, gz_lda 560 0), (560, gz_ldi 561 3), (561, gz_push 562 (gz_i 1)), (562, gz_iop 563 (fun x y => x + y)), (563, gz_ild 564 (l_ai L xs)), (564, gz_c1I 567 1 (fun u x => m_span_p u.2 x) (fun u x => m_span_r u.2 x) (fun u x => (u.1, m_span_s u.2 x))), (567, gz_pop 568), (568, gz_goto 703), (571, gz_lda 572 1), (572, gz_lda 573 0), (573, gz_ldi 574 3), (574, gz_push 575 (gz_i 1)), (575, gz_iop 576 (fun x y => x + y)), (576, gz_ild 577 (l_ai L xs)), (577, gz_lda 578 0), (578, gz_ldi 579 3), (579, gz_push 580 (gz_i 2)), (580, gz_iop 581 (fun x y => x + y)), (581, gz_ild 582 (l_ai L xs)), (582, gz_c2I 585 0 (fun u x y => x_rank_p u.1 x y) (fun u x y => x_rank_r u.1 x y) (fun u x y => (x_rank_s u.1 x y, u.2))), (585, gz_pop 586), (586, gz_lda 587 2), (587, gz_lda 588 0), (588, gz_ldi 589 3), (589, gz_push 590 (gz_i 1)), (590, gz_iop 591 (fun x y => x + y)), (591, gz_ild 592 (l_ai L xs)), (592, gz_lda 593 0), (593, gz_ldi 594 3), (594, gz_push 595 (gz_i 2)), (595, gz_iop 596 (fun x y => x + y)), (596, gz_ild 597 (l_ai L xs)), (597, gz_c2I 600 1 (fun u x y => m_rank_p u.2 x y) (fun u x y => m_rank_r u.2 x y) (fun u x y => (u.1, m_rank_s u.2 x y))), (600, gz_pop 601), (601, gz_goto 703), (604, gz_lda 605 1), (605, gz_lda 606 0), (606, gz_ldi 607 3), (607, gz_push 608 (gz_i 1)), (608, gz_iop 609 (fun x y => x + y)), (609, gz_ild 610 (l_ai L xs)), (610, gz_lda 611 0), (611, gz_ldi 612 3), (612, gz_push 613 (gz_i 2)), (613, gz_iop 614 (fun x y => x + y)), (614, gz_ild 615 (l_ai L xs)), (615, gz_c2I 618 0 (fun u x y => x_order_p u.1 x y) (fun u x y => x_order u.1 x y) (fun u x y => u)), (618, gz_pop 619), (619, gz_lda 620 2), (620, gz_lda 621 0), (621, gz_ldi 622 3), (622, gz_push 623 (gz_i 1)), (623, gz_iop 624 (fun x y => x + y)), (624, gz_ild 625 (l_ai L xs)), (625, gz_lda 626 0), (626, gz_ldi 627 3), (627, gz_push 628 (gz_i 2)), (628, gz_iop 629 (fun x y => x + y)), (629, gz_ild 630 (l_ai L xs)), (630, gz_c2I 633 1 (fun u x y => m_order_p u.2 x y) (fun u x y => m_order_r u.2 x y) (fun u x y => (u.1, m_order_s u.2 x y))), (633, gz_pop 634), (634, gz_goto 703), (637, gz_lda 638 1), (638, gz_lda 639 0), (639, gz_ldi 640 3), (640, gz_push 641 (gz_i 1)), (641, gz_iop 642 (fun x y => x + y)), (642, gz_ild 643 (l_ai L xs)), (643, gz_lda 644 0), (644, gz_ldi 645 3), (645, gz_push 646 (gz_i 2)), (646, gz_iop 647 (fun x y => x + y)), (647, gz_ild 648 (l_ai L xs)), (648, gz_c2I 651 0 (fun u x y => x_state_p u.1 x y) (fun u x y => x_state u.1 x y) (fun u x y => u)), (651, gz_pop 652), (652, gz_lda 653 2), (653, gz_lda 654 0), (654, gz_ldi 655 3), (655, gz_push 656 (gz_i 1)), (656, gz_iop 657 (fun x y => x + y)), (657, gz_ild 658 (l_ai L xs)), (658, gz_lda 659 0), (659, gz_ldi 660 3), (660, gz_push 661 (gz_i 2)), (661, gz_iop 662 (fun x y => x + y)), (662, gz_ild 663 (l_ai L xs)), (663, gz_c2I 666 1 (fun u x y => m_state_p u.2 x y) (fun u x y => m_state_r u.2 x y) (fun u x y => (u.1, m_state_s u.2 x y))), (666, gz_pop 667), (667, gz_goto 703), (670, gz_lda 671 1), (671, gz_lda 672 0), (672, gz_ldi 673 3), (673, gz_push 674 (gz_i 1)), (674, gz_iop 675 (fun x y => x + y)), (675, gz_ild 676 (l_ai L xs)), (676, gz_lda 677 0), (677, gz_ldi 678 3), (678, gz_push 679 (gz_i 2)), (679, gz_iop 680 (fun x y => x + y)), (680, gz_ild 681 (l_ai L xs)), (681, gz_c2I 684 0 (fun u x y => x_where_p u.1 x y) (fun u x y => x_where u.1 x y) (fun u x y => u)), (684, gz_pop 685), (685, gz_lda 686 2), (686, gz_lda 687 0), (687, gz_ldi 688 3), (688, gz_push 689 (gz_i 1)), (689, gz_iop 690 (fun x y => x + y)), (690, gz_ild 691 (l_ai L xs)), (691, gz_lda 692 0), (692, gz_ldi 693 3), (693, gz_push 694 (gz_i 2)), (694, gz_iop 695 (fun x y => x + y)), (695, gz_ild 696 (l_ai L xs)), (696, gz_c2I 699 1 (fun u x y => m_where_p u.2 x y) (fun u x y => m_where_r u.2 x y) (fun u x y => (u.1, m_where_s u.2 x y))), (699, gz_pop 700), (700, gz_goto 703), (703, gz_iinc 706 3 5), (706, gz_goto 18), (709, gz_push 710 (gz_i 1)), (710, gz_iret)]
set_option maxRecDepth 100000 in
set_option maxHeartbeats 16000000 in
theorem l_d {L : Nat} {xs : Nat → Int32} {Kr : Option Int32 → q_S × q_S → Prop} {Z : gz_K (q_S × q_S)} (hZ : gz_shut (l_t L xs) Kr Z) (hL : L ≤ 2560) (h1 : ∀ u, Kr (some 1) u) : ∀ (n k : Nat) (u : q_S × q_S), q_Rel u.1 u.2 → k ≤ L + 4 → L + 4 < k + n → Z 18 [(0, gz_r 2), (1, gz_r 0), (2, gz_r 1), (3, gz_i (nI k))] [] u := by
  intro n
  induction n with
  | zero => intro k u _ a b; omega
  | succ n ih =>
  intro k u hR hk hn
  refine hZ.1 [18] 500 18 _ _ _ ?_
  refine And.intro (fun (_ : Int32.ofNat L - 5 < nI k) => h1 u) (fun (hlt : ¬ Int32.ofNat L - 5 < nI k) => ?_)
  have h5 : k + 5 ≤ L := l_fit (by omega) (by omega) hlt
  have e5 : nI k + 5 = nI (k + 5) := nI_add k 5
  have hv0 : vp_in (nI k) L := vp_in_nI (by omega) (by omega)
  have hv1 : vp_in (nI k + 1) L := by rw [show nI k + 1 = nI (k + 1) from nI_add k 1]; exact vp_in_nI (by omega) (by omega)
  have hv2 : vp_in (nI k + 2) L := by rw [show nI k + 2 = nI (k + 2) from nI_add k 2]; exact vp_in_nI (by omega) (by omega)
  have hv3 : vp_in (nI k + 3) L := by rw [show nI k + 3 = nI (k + 3) from nI_add k 3]; exact vp_in_nI (by omega) (by omega)
  have hv4 : vp_in (nI k + 4) L := by rw [show nI k + 4 = nI (k + 4) from nI_add k 4]; exact vp_in_nI (by omega) (by omega)
  have back : ∀ z : q_S × q_S, q_Rel z.1 z.2 → Z 18 [(0, gz_r 2), (1, gz_r 0), (2, gz_r 1), (3, gz_i (nI k + 5))] [] z := fun z hz => by rw [e5]; exact ih (k + 5) z hz (by omega) (by omega)
  refine And.intro hv0 ?_
  refine And.intro (fun _ => ?_) (fun _ => ?_)
  · refine And.intro hv1 ?_
    refine And.intro (rel_record hR (xs (Int32.toNatClampNeg ((nI k) + 1)))).1 ?_
    refine And.intro hv1 ?_
    refine And.intro (rel_record hR (xs (Int32.toNatClampNeg ((nI k) + 1)))).2.1 ?_
    exact back _ (rel_record hR (xs (Int32.toNatClampNeg ((nI k) + 1)))).2.2.2
  refine And.intro (fun _ => ?_) (fun _ => ?_)
  · refine And.intro hv1 ?_
    refine And.intro hv2 ?_
    refine And.intro (rel_copy hR (xs (Int32.toNatClampNeg ((nI k) + 1))) (xs (Int32.toNatClampNeg ((nI k) + 2)))).1 ?_
    refine And.intro hv1 ?_
    refine And.intro hv2 ?_
    refine And.intro (rel_copy hR (xs (Int32.toNatClampNeg ((nI k) + 1))) (xs (Int32.toNatClampNeg ((nI k) + 2)))).2.1 ?_
    exact back _ (rel_copy hR (xs (Int32.toNatClampNeg ((nI k) + 1))) (xs (Int32.toNatClampNeg ((nI k) + 2)))).2.2.2
  refine And.intro (fun _ => ?_) (fun _ => ?_)
  · refine And.intro hv1 ?_
    refine And.intro hv2 ?_
    refine And.intro (fun (hz183 : (xs (Int32.toNatClampNeg ((nI k) + 2))) = 0) => ?_) (fun (hz183 : ¬ (xs (Int32.toNatClampNeg ((nI k) + 2))) = 0) => ?_)
    · refine And.intro (rel_bar hR (xs (Int32.toNatClampNeg ((nI k) + 1))) 0).1 ?_
      refine And.intro hv1 ?_
      refine And.intro hv2 ?_
      refine And.intro (fun _ => ?_) (fun (h : ¬ (xs (Int32.toNatClampNeg ((nI k) + 2))) = 0) => absurd hz183 h)
      refine And.intro (rel_bar hR (xs (Int32.toNatClampNeg ((nI k) + 1))) 0).2.1 ?_
      exact back _ (rel_bar hR (xs (Int32.toNatClampNeg ((nI k) + 1))) 0).2.2.2
    · refine And.intro (rel_bar hR (xs (Int32.toNatClampNeg ((nI k) + 1))) 1).1 ?_
      refine And.intro hv1 ?_
      refine And.intro hv2 ?_
      refine And.intro (fun (h : (xs (Int32.toNatClampNeg ((nI k) + 2))) = 0) => absurd h hz183) (fun _ => ?_)
      refine And.intro (rel_bar hR (xs (Int32.toNatClampNeg ((nI k) + 1))) 1).2.1 ?_
      exact back _ (rel_bar hR (xs (Int32.toNatClampNeg ((nI k) + 1))) 1).2.2.2
  refine And.intro (fun _ => ?_) (fun _ => ?_)
  · refine And.intro hv1 ?_
    refine And.intro hv2 ?_
    refine And.intro hv3 ?_
    refine And.intro hv4 ?_
    refine And.intro (rel_hold hR (xs (Int32.toNatClampNeg ((nI k) + 1))) (xs (Int32.toNatClampNeg ((nI k) + 2))) (xs (Int32.toNatClampNeg ((nI k) + 3))) (xs (Int32.toNatClampNeg ((nI k) + 4)))).1 ?_
    refine And.intro hv1 ?_
    refine And.intro hv2 ?_
    refine And.intro hv3 ?_
    refine And.intro hv4 ?_
    refine And.intro (rel_hold hR (xs (Int32.toNatClampNeg ((nI k) + 1))) (xs (Int32.toNatClampNeg ((nI k) + 2))) (xs (Int32.toNatClampNeg ((nI k) + 3))) (xs (Int32.toNatClampNeg ((nI k) + 4)))).2.1 ?_
    exact back _ (rel_hold hR (xs (Int32.toNatClampNeg ((nI k) + 1))) (xs (Int32.toNatClampNeg ((nI k) + 2))) (xs (Int32.toNatClampNeg ((nI k) + 3))) (xs (Int32.toNatClampNeg ((nI k) + 4)))).2.2.2
  refine And.intro (fun _ => ?_) (fun _ => ?_)
  · refine And.intro hv1 ?_
    refine And.intro hv2 ?_
    refine And.intro (rel_most hR (xs (Int32.toNatClampNeg ((nI k) + 1))) (xs (Int32.toNatClampNeg ((nI k) + 2)))).1 ?_
    refine And.intro hv1 ?_
    refine And.intro hv2 ?_
    refine And.intro (rel_most hR (xs (Int32.toNatClampNeg ((nI k) + 1))) (xs (Int32.toNatClampNeg ((nI k) + 2)))).2.1 ?_
    exact back _ (rel_most hR (xs (Int32.toNatClampNeg ((nI k) + 1))) (xs (Int32.toNatClampNeg ((nI k) + 2)))).2.2.2
  refine And.intro (fun _ => ?_) (fun _ => ?_)
  · refine And.intro hv1 ?_
    refine And.intro hv2 ?_
    refine And.intro hv3 ?_
    refine And.intro (rel_suspend hR (xs (Int32.toNatClampNeg ((nI k) + 1))) (((Int32.toInt64 (xs (Int32.toNatClampNeg ((nI k) + 2)))) <<< (Int32.toInt64 32 &&& 63)) ||| ((Int32.toInt64 (xs (Int32.toNatClampNeg ((nI k) + 3)))) &&& 4294967295))).1 ?_
    refine And.intro hv1 ?_
    refine And.intro hv2 ?_
    refine And.intro hv3 ?_
    refine And.intro (rel_suspend hR (xs (Int32.toNatClampNeg ((nI k) + 1))) (((Int32.toInt64 (xs (Int32.toNatClampNeg ((nI k) + 2)))) <<< (Int32.toInt64 32 &&& 63)) ||| ((Int32.toInt64 (xs (Int32.toNatClampNeg ((nI k) + 3)))) &&& 4294967295))).2.1 ?_
    exact back _ (rel_suspend hR (xs (Int32.toNatClampNeg ((nI k) + 1))) (((Int32.toInt64 (xs (Int32.toNatClampNeg ((nI k) + 2)))) <<< (Int32.toInt64 32 &&& 63)) ||| ((Int32.toInt64 (xs (Int32.toNatClampNeg ((nI k) + 3)))) &&& 4294967295))).2.2.2
  refine And.intro (fun _ => ?_) (fun _ => ?_)
  · refine And.intro hv1 ?_
    refine And.intro hv2 ?_
    refine And.intro (rel_back hR (xs (Int32.toNatClampNeg ((nI k) + 1))) (xs (Int32.toNatClampNeg ((nI k) + 2)))).1 ?_
    refine And.intro hv1 ?_
    refine And.intro hv2 ?_
    refine And.intro (rel_back hR (xs (Int32.toNatClampNeg ((nI k) + 1))) (xs (Int32.toNatClampNeg ((nI k) + 2)))).2.1 ?_
    exact back _ (rel_back hR (xs (Int32.toNatClampNeg ((nI k) + 1))) (xs (Int32.toNatClampNeg ((nI k) + 2)))).2.2.2
  refine And.intro (fun _ => ?_) (fun _ => ?_)
  · refine And.intro hv1 ?_
    refine And.intro (rel_arrive hR (xs (Int32.toNatClampNeg ((nI k) + 1)))).1 ?_
    refine And.intro hv1 ?_
    refine And.intro (rel_arrive hR (xs (Int32.toNatClampNeg ((nI k) + 1)))).2.1 ?_
    exact back _ (rel_arrive hR (xs (Int32.toNatClampNeg ((nI k) + 1)))).2.2.2
  refine And.intro (fun _ => ?_) (fun _ => ?_)
  · refine And.intro hv1 ?_
    refine And.intro (rel_pick hR (xs (Int32.toNatClampNeg ((nI k) + 1)))).1 ?_
    refine And.intro hv1 ?_
    refine And.intro (rel_pick hR (xs (Int32.toNatClampNeg ((nI k) + 1)))).2.1 ?_
    exact back _ (rel_pick hR (xs (Int32.toNatClampNeg ((nI k) + 1)))).2.2.2
  refine And.intro (fun _ => ?_) (fun _ => ?_)
  · refine And.intro hv1 ?_
    refine And.intro (rel_lend hR (xs (Int32.toNatClampNeg ((nI k) + 1)))).1 ?_
    refine And.intro hv1 ?_
    refine And.intro (rel_lend hR (xs (Int32.toNatClampNeg ((nI k) + 1)))).2.1 ?_
    exact back _ (rel_lend hR (xs (Int32.toNatClampNeg ((nI k) + 1)))).2.2.2
  refine And.intro (fun _ => ?_) (fun _ => ?_)
  · refine And.intro hv1 ?_
    refine And.intro (rel_cancel hR (xs (Int32.toNatClampNeg ((nI k) + 1)))).1 ?_
    refine And.intro hv1 ?_
    refine And.intro (rel_cancel hR (xs (Int32.toNatClampNeg ((nI k) + 1)))).2.1 ?_
    exact back _ (rel_cancel hR (xs (Int32.toNatClampNeg ((nI k) + 1)))).2.2.2
  refine And.intro (fun _ => ?_) (fun _ => ?_)
  · refine And.intro hv1 ?_
    refine And.intro hv2 ?_
    refine And.intro (rel_tick hR (((Int32.toInt64 (xs (Int32.toNatClampNeg ((nI k) + 1)))) <<< (Int32.toInt64 32 &&& 63)) ||| ((Int32.toInt64 (xs (Int32.toNatClampNeg ((nI k) + 2)))) &&& 4294967295))).1 ?_
    refine And.intro hv1 ?_
    refine And.intro hv2 ?_
    refine And.intro (rel_tick hR (((Int32.toInt64 (xs (Int32.toNatClampNeg ((nI k) + 1)))) <<< (Int32.toInt64 32 &&& 63)) ||| ((Int32.toInt64 (xs (Int32.toNatClampNeg ((nI k) + 2)))) &&& 4294967295))).2.1 ?_
    refine And.intro (fun _ => ?_) (fun h => absurd (rel_tick hR (((Int32.toInt64 (xs (Int32.toNatClampNeg ((nI k) + 1)))) <<< (Int32.toInt64 32 &&& 63)) ||| ((Int32.toInt64 (xs (Int32.toNatClampNeg ((nI k) + 2)))) &&& 4294967295))).2.2.1 h)
    exact back _ (rel_tick hR (((Int32.toInt64 (xs (Int32.toNatClampNeg ((nI k) + 1)))) <<< (Int32.toInt64 32 &&& 63)) ||| ((Int32.toInt64 (xs (Int32.toNatClampNeg ((nI k) + 2)))) &&& 4294967295))).2.2.2
  refine And.intro (fun _ => ?_) (fun _ => ?_)
  · refine And.intro hv1 ?_
    refine And.intro (rel_span hR (xs (Int32.toNatClampNeg ((nI k) + 1)))).1 ?_
    refine And.intro hv1 ?_
    refine And.intro (rel_span hR (xs (Int32.toNatClampNeg ((nI k) + 1)))).2.1 ?_
    exact back _ (rel_span hR (xs (Int32.toNatClampNeg ((nI k) + 1)))).2.2.2
  refine And.intro (fun _ => ?_) (fun _ => ?_)
  · refine And.intro hv1 ?_
    refine And.intro hv2 ?_
    refine And.intro (rel_rank hR (xs (Int32.toNatClampNeg ((nI k) + 1))) (xs (Int32.toNatClampNeg ((nI k) + 2)))).1 ?_
    refine And.intro hv1 ?_
    refine And.intro hv2 ?_
    refine And.intro (rel_rank hR (xs (Int32.toNatClampNeg ((nI k) + 1))) (xs (Int32.toNatClampNeg ((nI k) + 2)))).2.1 ?_
    exact back _ (rel_rank hR (xs (Int32.toNatClampNeg ((nI k) + 1))) (xs (Int32.toNatClampNeg ((nI k) + 2)))).2.2.2
  refine And.intro (fun _ => ?_) (fun _ => ?_)
  · refine And.intro hv1 ?_
    refine And.intro hv2 ?_
    refine And.intro (rel_order hR (xs (Int32.toNatClampNeg ((nI k) + 1))) (xs (Int32.toNatClampNeg ((nI k) + 2)))).1 ?_
    refine And.intro hv1 ?_
    refine And.intro hv2 ?_
    refine And.intro (rel_order hR (xs (Int32.toNatClampNeg ((nI k) + 1))) (xs (Int32.toNatClampNeg ((nI k) + 2)))).2.1 ?_
    exact back _ (rel_order hR (xs (Int32.toNatClampNeg ((nI k) + 1))) (xs (Int32.toNatClampNeg ((nI k) + 2)))).2.2.2
  refine And.intro (fun _ => ?_) (fun _ => ?_)
  · refine And.intro hv1 ?_
    refine And.intro hv2 ?_
    refine And.intro (rel_state hR (xs (Int32.toNatClampNeg ((nI k) + 1))) (xs (Int32.toNatClampNeg ((nI k) + 2)))).1 ?_
    refine And.intro hv1 ?_
    refine And.intro hv2 ?_
    refine And.intro (rel_state hR (xs (Int32.toNatClampNeg ((nI k) + 1))) (xs (Int32.toNatClampNeg ((nI k) + 2)))).2.1 ?_
    exact back _ (rel_state hR (xs (Int32.toNatClampNeg ((nI k) + 1))) (xs (Int32.toNatClampNeg ((nI k) + 2)))).2.2.2
  refine And.intro (fun _ => ?_) (fun _ => ?_)
  · refine And.intro hv1 ?_
    refine And.intro hv2 ?_
    refine And.intro (rel_where hR (xs (Int32.toNatClampNeg ((nI k) + 1))) (xs (Int32.toNatClampNeg ((nI k) + 2)))).1 ?_
    refine And.intro hv1 ?_
    refine And.intro hv2 ?_
    refine And.intro (rel_where hR (xs (Int32.toNatClampNeg ((nI k) + 1))) (xs (Int32.toNatClampNeg ((nI k) + 2)))).2.1 ?_
    exact back _ (rel_where hR (xs (Int32.toNatClampNeg ((nI k) + 1))) (xs (Int32.toNatClampNeg ((nI k) + 2)))).2.2.2
  exact back u hR
