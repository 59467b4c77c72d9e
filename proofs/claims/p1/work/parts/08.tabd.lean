def tmL_compare (pc : Nat) : zI := match pc with
  | 0 => (1, 3, 0, 1, 0)
  | 1 => (6, 0, 0, 2, 0)
  | 2 => (1, 0, 0, 3, 0)
  | 3 => (0, 1, 0, 4, 0)
  | 4 => (0, 2, 0, 5, 0)
  | 8 => (25, 0, 0, 9, 0)
  | 9 => (64, 0, 0, 10, 0)
  | 10 => (33, 17, 0, 13, 0)
  | 13 => (4, 4, 0, 15, 0)
  | 15 => (6, 0, 0, 16, 1)
  | 16 => (53, 0, 0, 17, 0)
  | 17 => (6, 0, 0, 18, 0)
  | 18 => (53, 0, 0, 19, 0)
  | _ => (99, 0, 0, 0, 0)
def tL_compare (pc : Nat) : zI := if pc < 19 then tmL_compare pc else (99, 0, 0, 0, 0)
theorem tkL_compare : z_tab RL wsL_compare 5 (some .int) cL_compare 19 tL_compare := z_tab_of (tm := tmL_compare) (by decide +kernel)
theorem sL_compare_0 (lv : zL) (st : List Value) (w : zW) (nx K : Nat → zL → List Value → zW → Prop) (Rt : Option Value → zW → Prop) : z_st1 (tL_compare 0) 0 lv st w nx K Rt = (z_la lv 3 (fun x => nx 1 lv (.ref x :: st) w)) := id rfl
theorem sL_compare_1 (lv : zL) (st : List Value) (w : zW) (nx K : Nat → zL → List Value → zW → Prop) (Rt : Option Value → zW → Prop) : z_st1 (tL_compare 1) 1 lv st w nx K Rt = (nx 2 lv (.int (0 : Int32) :: st) w) := id rfl
theorem sL_compare_2 (lv : zL) (st : List Value) (w : zW) (nx K : Nat → zL → List Value → zW → Prop) (Rt : Option Value → zW → Prop) : z_st1 (tL_compare 2) 2 lv st w nx K Rt = (z_la lv 0 (fun x => nx 3 lv (.ref x :: st) w)) := id rfl
theorem sL_compare_3 (lv : zL) (st : List Value) (w : zW) (nx K : Nat → zL → List Value → zW → Prop) (Rt : Option Value → zW → Prop) : z_st1 (tL_compare 3) 3 lv st w nx K Rt = (z_li lv 1 (fun x => nx 4 lv (.int x :: st) w)) := id rfl
theorem sL_compare_4 (lv : zL) (st : List Value) (w : zW) (nx K : Nat → zL → List Value → zW → Prop) (Rt : Option Value → zW → Prop) : z_st1 (tL_compare 4) 4 lv st w nx K Rt = (z_li lv 2 (fun x => nx 5 lv (.int x :: st) w)) := id rfl
theorem sL_compare_8 (lv : zL) (st : List Value) (w : zW) (nx K : Nat → zL → List Value → zW → Prop) (Rt : Option Value → zW → Prop) : z_st1 (tL_compare 8) 8 lv st w nx K Rt = (z_1i st (fun x r => nx 9 lv (.long x.toInt64 :: r) w)) := id rfl
theorem sL_compare_9 (lv : zL) (st : List Value) (w : zW) (nx K : Nat → zL → List Value → zW → Prop) (Rt : Option Value → zW → Prop) : z_st1 (tL_compare 9) 9 lv st w nx K Rt = (z_lia st (fun x i u r => z_ar2 w x (fun m g => vp_in i m ∧ nx 10 lv r (z_up w x (.inl (2, m, .inr (.inl (vp_updL g i.toNatClampNeg u)))))))) := id rfl
theorem sL_compare_10 (lv : zL) (st : List Value) (w : zW) (nx K : Nat → zL → List Value → zW → Prop) (Rt : Option Value → zW → Prop) : z_st1 (tL_compare 10) 10 lv st w nx K Rt = (nx 17 lv st w) := id rfl
theorem sL_compare_13 (lv : zL) (st : List Value) (w : zW) (nx K : Nat → zL → List Value → zW → Prop) (Rt : Option Value → zW → Prop) : z_st1 (tL_compare 13) 13 lv st w nx K Rt = (z_1a st (fun x r => z_ok1 lv 4 = true ∧ nx 15 (lv.set 4 (some (.ref x))) r w)) := id rfl
theorem sL_compare_15 (lv : zL) (st : List Value) (w : zW) (nx K : Nat → zL → List Value → zW → Prop) (Rt : Option Value → zW → Prop) : z_st1 (tL_compare 15) 15 lv st w nx K Rt = (nx 16 lv (.int (1 : Int32) :: st) w) := id rfl
theorem sL_compare_16 (lv : zL) (st : List Value) (w : zW) (nx K : Nat → zL → List Value → zW → Prop) (Rt : Option Value → zW → Prop) : z_st1 (tL_compare 16) 16 lv st w nx K Rt = (z_e1 st (fun x => Rt (some (.int x)) w)) := id rfl
theorem sL_compare_17 (lv : zL) (st : List Value) (w : zW) (nx K : Nat → zL → List Value → zW → Prop) (Rt : Option Value → zW → Prop) : z_st1 (tL_compare 17) 17 lv st w nx K Rt = (nx 18 lv (.int (0 : Int32) :: st) w) := id rfl
theorem sL_compare_18 (lv : zL) (st : List Value) (w : zW) (nx K : Nat → zL → List Value → zW → Prop) (Rt : Option Value → zW → Prop) : z_st1 (tL_compare 18) 18 lv st w nx K Rt = (z_e1 st (fun x => Rt (some (.int x)) w)) := id rfl
theorem sL_compare_5 (lv : zL) (st : List Value) (w : zW) (nx K : Nat → zL → List Value → zW → Prop) (Rt : Option Value → zW → Prop) : z_st1 (tL_compare 5) 5 lv st w nx K Rt = K 5 lv st w := id rfl
theorem dL_compare_5 : decode cL_compare 5 = .ok (.invokevirtual 21, 3) := by decide +kernel

def tmL_law (pc : Nat) : zI := match pc with
  | 3 => (29, 0, 0, 4, 0)
  | 7 => (4, 1, 0, 8, 0)
  | 11 => (29, 0, 0, 12, 0)
  | 15 => (4, 2, 0, 16, 0)
  | 16 => (6, 0, 0, 17, 1)
  | 19 => (4, 3, 0, 20, 0)
  | 20 => (6, 0, 0, 21, 0)
  | 21 => (3, 4, 0, 23, 0)
  | 23 => (0, 4, 0, 25, 0)
  | 25 => (1, 0, 0, 26, 0)
  | 27 => (6, 0, 0, 28, 5)
  | 28 => (9, 0, 0, 29, 0)
  | 29 => (44, 789, 0, 32, 0)
  | 32 => (1, 0, 0, 33, 0)
  | 33 => (0, 4, 0, 35, 0)
  | 36 => (6, 0, 0, 38, 31)
  | 38 => (11, 0, 0, 39, 0)
  | 124 => (1, 1, 0, 125, 0)
  | 125 => (1, 0, 0, 126, 0)
  | 126 => (0, 4, 0, 128, 0)
  | 128 => (6, 0, 0, 129, 1)
  | 129 => (8, 0, 0, 130, 0)
  | 131 => (1, 3, 0, 132, 0)
  | 135 => (3, 5, 0, 137, 0)
  | 137 => (1, 2, 0, 138, 0)
  | 138 => (1, 0, 0, 139, 0)
  | 139 => (0, 4, 0, 141, 0)
  | 141 => (6, 0, 0, 142, 1)
  | 142 => (8, 0, 0, 143, 0)
  | 147 => (3, 6, 0, 149, 0)
  | 149 => (1, 2, 0, 150, 0)
  | 153 => (0, 5, 0, 155, 0)
  | 155 => (40, 160, 0, 158, 0)
  | 158 => (6, 0, 0, 159, 0)
  | 159 => (58, 0, 0, 160, 0)
  | 160 => (0, 5, 0, 162, 0)
  | 162 => (35, 177, 0, 165, 0)
  | 165 => (1, 3, 0, 166, 0)
  | 166 => (6, 0, 0, 167, 0)
  | 167 => (63, 0, 0, 168, 0)
  | 168 => (0, 6, 0, 170, 0)
  | 170 => (25, 0, 0, 171, 0)
  | 171 => (28, 0, 0, 172, 0)
  | 172 => (34, 177, 0, 175, 0)
  | 175 => (6, 0, 0, 176, 0)
  | 176 => (58, 0, 0, 177, 0)
  | 177 => (33, 783, 0, 180, 0)
  | 180 => (1, 1, 0, 181, 0)
  | 181 => (1, 0, 0, 182, 0)
  | 182 => (0, 4, 0, 184, 0)
  | 184 => (6, 0, 0, 185, 1)
  | 185 => (8, 0, 0, 186, 0)
  | 190 => (1, 2, 0, 191, 0)
  | 191 => (1, 0, 0, 192, 0)
  | 192 => (0, 4, 0, 194, 0)
  | 194 => (6, 0, 0, 195, 1)
  | 195 => (8, 0, 0, 196, 0)
  | 200 => (40, 783, 0, 203, 0)
  | 203 => (6, 0, 0, 204, 0)
  | 204 => (58, 0, 0, 205, 0)
  | 205 => (1, 1, 0, 206, 0)
  | 206 => (1, 0, 0, 207, 0)
  | 207 => (0, 4, 0, 209, 0)
  | 209 => (6, 0, 0, 210, 1)
  | 210 => (8, 0, 0, 211, 0)
  | 212 => (1, 0, 0, 213, 0)
  | 213 => (0, 4, 0, 215, 0)
  | 215 => (6, 0, 0, 216, 2)
  | 216 => (8, 0, 0, 217, 0)
  | 218 => (1, 0, 0, 219, 0)
  | 219 => (0, 4, 0, 221, 0)
  | 221 => (6, 0, 0, 222, 3)
  | 222 => (8, 0, 0, 223, 0)
  | 224 => (1, 0, 0, 225, 0)
  | 225 => (0, 4, 0, 227, 0)
  | 227 => (6, 0, 0, 228, 4)
  | 228 => (8, 0, 0, 229, 0)
  | 230 => (34, 237, 0, 233, 0)
  | 233 => (6, 0, 0, 234, 1)
  | 234 => (33, 238, 0, 237, 0)
  | 237 => (6, 0, 0, 238, 0)
  | 241 => (1, 2, 0, 242, 0)
  | 242 => (1, 0, 0, 243, 0)
  | 243 => (0, 4, 0, 245, 0)
  | 245 => (6, 0, 0, 246, 1)
  | 246 => (8, 0, 0, 247, 0)
  | 248 => (1, 0, 0, 249, 0)
  | 249 => (0, 4, 0, 251, 0)
  | 251 => (6, 0, 0, 252, 2)
  | 252 => (8, 0, 0, 253, 0)
  | 254 => (1, 0, 0, 255, 0)
  | 255 => (0, 4, 0, 257, 0)
  | 257 => (6, 0, 0, 258, 3)
  | 258 => (8, 0, 0, 259, 0)
  | 260 => (1, 0, 0, 261, 0)
  | 261 => (0, 4, 0, 263, 0)
  | 263 => (6, 0, 0, 264, 4)
  | 264 => (8, 0, 0, 265, 0)
  | 266 => (34, 273, 0, 269, 0)
  | 269 => (6, 0, 0, 270, 1)
  | 270 => (33, 274, 0, 273, 0)
  | 273 => (6, 0, 0, 274, 0)
  | 277 => (40, 783, 0, 280, 0)
  | 280 => (6, 0, 0, 281, 0)
  | 281 => (58, 0, 0, 282, 0)
  | 282 => (1, 1, 0, 283, 0)
  | 286 => (1, 2, 0, 287, 0)
  | 290 => (40, 783, 0, 293, 0)
  | 293 => (6, 0, 0, 294, 0)
  | 294 => (58, 0, 0, 295, 0)
  | 295 => (1, 1, 0, 296, 0)
  | 296 => (1, 0, 0, 297, 0)
  | 297 => (0, 4, 0, 299, 0)
  | 299 => (6, 0, 0, 300, 1)
  | 300 => (8, 0, 0, 301, 0)
  | 302 => (1, 0, 0, 303, 0)
  | 303 => (0, 4, 0, 305, 0)
  | 305 => (6, 0, 0, 306, 2)
  | 306 => (8, 0, 0, 307, 0)
  | 308 => (1, 0, 0, 309, 0)
  | 309 => (0, 4, 0, 311, 0)
  | 311 => (6, 0, 0, 312, 3)
  | 312 => (8, 0, 0, 313, 0)
  | 317 => (1, 2, 0, 318, 0)
  | 318 => (1, 0, 0, 319, 0)
  | 319 => (0, 4, 0, 321, 0)
  | 321 => (6, 0, 0, 322, 1)
  | 322 => (8, 0, 0, 323, 0)
  | 324 => (1, 0, 0, 325, 0)
  | 325 => (0, 4, 0, 327, 0)
  | 327 => (6, 0, 0, 328, 2)
  | 328 => (8, 0, 0, 329, 0)
  | 330 => (1, 0, 0, 331, 0)
  | 331 => (0, 4, 0, 333, 0)
  | 333 => (6, 0, 0, 334, 3)
  | 334 => (8, 0, 0, 335, 0)
  | 339 => (40, 783, 0, 342, 0)
  | 342 => (6, 0, 0, 343, 0)
  | 343 => (58, 0, 0, 344, 0)
  | 344 => (1, 1, 0, 345, 0)
  | 345 => (1, 0, 0, 346, 0)
  | 346 => (0, 4, 0, 348, 0)
  | 348 => (6, 0, 0, 349, 1)
  | 349 => (8, 0, 0, 350, 0)
  | 351 => (1, 0, 0, 352, 0)
  | 352 => (0, 4, 0, 354, 0)
  | 354 => (6, 0, 0, 355, 2)
  | 355 => (8, 0, 0, 356, 0)
  | 357 => (1, 0, 0, 358, 0)
  | 358 => (0, 4, 0, 360, 0)
  | 360 => (6, 0, 0, 361, 3)
  | 361 => (8, 0, 0, 362, 0)
  | 366 => (1, 2, 0, 367, 0)
  | 367 => (1, 0, 0, 368, 0)
  | 368 => (0, 4, 0, 370, 0)
  | 370 => (6, 0, 0, 371, 1)
  | 371 => (8, 0, 0, 372, 0)
  | 373 => (1, 0, 0, 374, 0)
  | 374 => (0, 4, 0, 376, 0)
  | 376 => (6, 0, 0, 377, 2)
  | 377 => (8, 0, 0, 378, 0)
  | 379 => (1, 0, 0, 380, 0)
  | 380 => (0, 4, 0, 382, 0)
  | 382 => (6, 0, 0, 383, 3)
  | 383 => (8, 0, 0, 384, 0)
  | 388 => (40, 783, 0, 391, 0)
  | 391 => (6, 0, 0, 392, 0)
  | 392 => (58, 0, 0, 393, 0)
  | 393 => (1, 1, 0, 394, 0)
  | 394 => (1, 0, 0, 395, 0)
  | 395 => (0, 4, 0, 397, 0)
  | 397 => (6, 0, 0, 398, 1)
  | 398 => (8, 0, 0, 399, 0)
  | 400 => (1, 0, 0, 401, 0)
  | 401 => (0, 4, 0, 403, 0)
  | 403 => (6, 0, 0, 404, 2)
  | 404 => (8, 0, 0, 405, 0)
  | 409 => (1, 2, 0, 410, 0)
  | 410 => (1, 0, 0, 411, 0)
  | 411 => (0, 4, 0, 413, 0)
  | 413 => (6, 0, 0, 414, 1)
  | 414 => (8, 0, 0, 415, 0)
  | 416 => (1, 0, 0, 417, 0)
  | 417 => (0, 4, 0, 419, 0)
  | 419 => (6, 0, 0, 420, 2)
  | 420 => (8, 0, 0, 421, 0)
  | 425 => (40, 783, 0, 428, 0)
  | 428 => (6, 0, 0, 429, 0)
  | 429 => (58, 0, 0, 430, 0)
  | 430 => (1, 1, 0, 431, 0)
  | 431 => (1, 0, 0, 432, 0)
  | 432 => (0, 4, 0, 434, 0)
  | 434 => (6, 0, 0, 435, 1)
  | 435 => (8, 0, 0, 436, 0)
  | 437 => (1, 0, 0, 438, 0)
  | 438 => (0, 4, 0, 440, 0)
  | 440 => (6, 0, 0, 441, 2)
  | 441 => (8, 0, 0, 442, 0)
  | 443 => (1, 0, 0, 444, 0)
  | 444 => (0, 4, 0, 446, 0)
  | 446 => (6, 0, 0, 447, 3)
  | 447 => (8, 0, 0, 448, 0)
  | 452 => (1, 2, 0, 453, 0)
  | 453 => (1, 0, 0, 454, 0)
  | 454 => (0, 4, 0, 456, 0)
  | 456 => (6, 0, 0, 457, 1)
  | 457 => (8, 0, 0, 458, 0)
  | 459 => (1, 0, 0, 460, 0)
  | 460 => (0, 4, 0, 462, 0)
  | 462 => (6, 0, 0, 463, 2)
  | 463 => (8, 0, 0, 464, 0)
  | 465 => (1, 0, 0, 466, 0)
  | 466 => (0, 4, 0, 468, 0)
  | 468 => (6, 0, 0, 469, 3)
  | 469 => (8, 0, 0, 470, 0)
  | 474 => (40, 783, 0, 477, 0)
  | 477 => (6, 0, 0, 478, 0)
  | 478 => (58, 0, 0, 479, 0)
  | 479 => (1, 1, 0, 480, 0)
  | 483 => (1, 2, 0, 484, 0)
  | 487 => (40, 783, 0, 490, 0)
  | 490 => (6, 0, 0, 491, 0)
  | 491 => (58, 0, 0, 492, 0)
  | 492 => (1, 1, 0, 493, 0)
  | 493 => (1, 0, 0, 494, 0)
  | 494 => (0, 4, 0, 496, 0)
  | 496 => (6, 0, 0, 497, 1)
  | 497 => (8, 0, 0, 498, 0)
  | 502 => (1, 2, 0, 503, 0)
  | 503 => (1, 0, 0, 504, 0)
  | 504 => (0, 4, 0, 506, 0)
  | 506 => (6, 0, 0, 507, 1)
  | 507 => (8, 0, 0, 508, 0)
  | 512 => (40, 783, 0, 515, 0)
  | 515 => (6, 0, 0, 516, 0)
  | 516 => (58, 0, 0, 517, 0)
  | 517 => (1, 1, 0, 518, 0)
  | 518 => (1, 0, 0, 519, 0)
  | 519 => (0, 4, 0, 521, 0)
  | 521 => (6, 0, 0, 522, 1)
  | 522 => (8, 0, 0, 523, 0)
  | 524 => (34, 531, 0, 527, 0)
  | 527 => (6, 0, 0, 528, 1)
  | 528 => (33, 532, 0, 531, 0)
  | 531 => (6, 0, 0, 532, 0)
  | 532 => (1, 3, 0, 533, 0)
  | 536 => (3, 5, 0, 538, 0)
  | 538 => (1, 2, 0, 539, 0)
  | 539 => (1, 0, 0, 540, 0)
  | 540 => (0, 4, 0, 542, 0)
  | 542 => (6, 0, 0, 543, 1)
  | 543 => (8, 0, 0, 544, 0)
  | 545 => (34, 552, 0, 548, 0)
  | 548 => (6, 0, 0, 549, 1)
  | 549 => (33, 553, 0, 552, 0)
  | 552 => (6, 0, 0, 553, 0)
  | 556 => (3, 6, 0, 558, 0)
  | 558 => (1, 2, 0, 559, 0)
  | 562 => (0, 5, 0, 564, 0)
  | 564 => (40, 569, 0, 567, 0)
  | 567 => (6, 0, 0, 568, 0)
  | 568 => (58, 0, 0, 569, 0)
  | 569 => (0, 5, 0, 571, 0)
  | 571 => (35, 586, 0, 574, 0)
  | 574 => (1, 3, 0, 575, 0)
  | 575 => (6, 0, 0, 576, 0)
  | 576 => (63, 0, 0, 577, 0)
  | 577 => (0, 6, 0, 579, 0)
  | 579 => (25, 0, 0, 580, 0)
  | 580 => (28, 0, 0, 581, 0)
  | 581 => (34, 586, 0, 584, 0)
  | 584 => (6, 0, 0, 585, 0)
  | 585 => (58, 0, 0, 586, 0)
  | 586 => (33, 783, 0, 589, 0)
  | 589 => (1, 1, 0, 590, 0)
  | 593 => (1, 2, 0, 594, 0)
  | 597 => (40, 783, 0, 600, 0)
  | 600 => (6, 0, 0, 601, 0)
  | 601 => (58, 0, 0, 602, 0)
  | 602 => (1, 1, 0, 603, 0)
  | 603 => (1, 0, 0, 604, 0)
  | 604 => (0, 4, 0, 606, 0)
  | 606 => (6, 0, 0, 607, 1)
  | 607 => (8, 0, 0, 608, 0)
  | 612 => (1, 2, 0, 613, 0)
  | 613 => (1, 0, 0, 614, 0)
  | 614 => (0, 4, 0, 616, 0)
  | 616 => (6, 0, 0, 617, 1)
  | 617 => (8, 0, 0, 618, 0)
  | 622 => (40, 783, 0, 625, 0)
  | 625 => (6, 0, 0, 626, 0)
  | 626 => (58, 0, 0, 627, 0)
  | 627 => (1, 1, 0, 628, 0)
  | 628 => (1, 0, 0, 629, 0)
  | 629 => (0, 4, 0, 631, 0)
  | 631 => (6, 0, 0, 632, 1)
  | 632 => (8, 0, 0, 633, 0)
  | 634 => (1, 0, 0, 635, 0)
  | 635 => (0, 4, 0, 637, 0)
  | 637 => (6, 0, 0, 638, 2)
  | 638 => (8, 0, 0, 639, 0)
  | 643 => (1, 2, 0, 644, 0)
  | 644 => (1, 0, 0, 645, 0)
  | 645 => (0, 4, 0, 647, 0)
  | 647 => (6, 0, 0, 648, 1)
  | 648 => (8, 0, 0, 649, 0)
  | 650 => (1, 0, 0, 651, 0)
  | 651 => (0, 4, 0, 653, 0)
  | 653 => (6, 0, 0, 654, 2)
  | 654 => (8, 0, 0, 655, 0)
  | 659 => (40, 783, 0, 662, 0)
  | 662 => (6, 0, 0, 663, 0)
  | 663 => (58, 0, 0, 664, 0)
  | 664 => (1, 1, 0, 665, 0)
  | 668 => (1, 2, 0, 669, 0)
  | 672 => (40, 783, 0, 675, 0)
  | 675 => (6, 0, 0, 676, 0)
  | 676 => (58, 0, 0, 677, 0)
  | 677 => (1, 1, 0, 678, 0)
  | 678 => (1, 0, 0, 679, 0)
  | 679 => (0, 4, 0, 681, 0)
  | 681 => (6, 0, 0, 682, 1)
  | 682 => (8, 0, 0, 683, 0)
  | 684 => (1, 0, 0, 685, 0)
  | 685 => (0, 4, 0, 687, 0)
  | 687 => (6, 0, 0, 688, 2)
  | 688 => (8, 0, 0, 689, 0)
  | 690 => (1, 3, 0, 691, 0)
  | 694 => (3, 5, 0, 696, 0)
  | 696 => (1, 2, 0, 697, 0)
  | 697 => (1, 0, 0, 698, 0)
  | 698 => (0, 4, 0, 700, 0)
  | 700 => (6, 0, 0, 701, 1)
  | 701 => (8, 0, 0, 702, 0)
  | 703 => (1, 0, 0, 704, 0)
  | 704 => (0, 4, 0, 706, 0)
  | 706 => (6, 0, 0, 707, 2)
  | 707 => (8, 0, 0, 708, 0)
  | 712 => (3, 6, 0, 714, 0)
  | 714 => (1, 2, 0, 715, 0)
  | 718 => (0, 5, 0, 720, 0)
  | 720 => (40, 725, 0, 723, 0)
  | 723 => (6, 0, 0, 724, 0)
  | 724 => (58, 0, 0, 725, 0)
  | 725 => (0, 5, 0, 727, 0)
  | 727 => (35, 742, 0, 730, 0)
  | 730 => (1, 3, 0, 731, 0)
  | 731 => (6, 0, 0, 732, 0)
  | 732 => (63, 0, 0, 733, 0)
  | 733 => (0, 6, 0, 735, 0)
  | 735 => (25, 0, 0, 736, 0)
  | 736 => (28, 0, 0, 737, 0)
  | 737 => (34, 742, 0, 740, 0)
  | 740 => (6, 0, 0, 741, 0)
  | 741 => (58, 0, 0, 742, 0)
  | 742 => (33, 783, 0, 745, 0)
  | 745 => (1, 1, 0, 746, 0)
  | 749 => (1, 2, 0, 750, 0)
  | 753 => (40, 783, 0, 756, 0)
  | 756 => (6, 0, 0, 757, 0)
  | 757 => (58, 0, 0, 758, 0)
  | 758 => (1, 1, 0, 759, 0)
  | 759 => (1, 0, 0, 760, 0)
  | 760 => (0, 4, 0, 762, 0)
  | 762 => (6, 0, 0, 763, 1)
  | 763 => (8, 0, 0, 764, 0)
  | 768 => (1, 2, 0, 769, 0)
  | 769 => (1, 0, 0, 770, 0)
  | 770 => (0, 4, 0, 772, 0)
  | 772 => (6, 0, 0, 773, 1)
  | 773 => (8, 0, 0, 774, 0)
  | 778 => (40, 783, 0, 781, 0)
  | 781 => (6, 0, 0, 782, 0)
  | 782 => (58, 0, 0, 783, 0)
  | 783 => (7, 4, 0, 786, 5)
  | 786 => (33, 23, 0, 789, 0)
  | 789 => (6, 0, 0, 790, 1)
  | 790 => (58, 0, 0, 791, 0)
  | _ => (99, 0, 0, 0, 0)
def tL_law (pc : Nat) : zI := if pc < 791 then tmL_law pc else (99, 0, 0, 0, 0)
theorem tkL_law : z_tab RL wsL_law 7 (some .boolean) cL_law 791 tL_law := z_tab_of (tm := tmL_law) (by decide +kernel)
theorem sL_law_3 (lv : zL) (st : List Value) (w : zW) (nx K : Nat → zL → List Value → zW → Prop) (Rt : Option Value → zW → Prop) : z_st1 (tL_law 3) 3 lv st w nx K Rt = (z_d1 st (fun x r => nx 4 lv (x :: x :: r) w)) := id rfl
theorem sL_law_7 (lv : zL) (st : List Value) (w : zW) (nx K : Nat → zL → List Value → zW → Prop) (Rt : Option Value → zW → Prop) : z_st1 (tL_law 7) 7 lv st w nx K Rt = (z_1a st (fun x r => z_ok1 lv 1 = true ∧ nx 8 (lv.set 1 (some (.ref x))) r w)) := id rfl
theorem sL_law_11 (lv : zL) (st : List Value) (w : zW) (nx K : Nat → zL → List Value → zW → Prop) (Rt : Option Value → zW → Prop) : z_st1 (tL_law 11) 11 lv st w nx K Rt = (z_d1 st (fun x r => nx 12 lv (x :: x :: r) w)) := id rfl
theorem sL_law_15 (lv : zL) (st : List Value) (w : zW) (nx K : Nat → zL → List Value → zW → Prop) (Rt : Option Value → zW → Prop) : z_st1 (tL_law 15) 15 lv st w nx K Rt = (z_1a st (fun x r => z_ok1 lv 2 = true ∧ nx 16 (lv.set 2 (some (.ref x))) r w)) := id rfl
theorem sL_law_16 (lv : zL) (st : List Value) (w : zW) (nx K : Nat → zL → List Value → zW → Prop) (Rt : Option Value → zW → Prop) : z_st1 (tL_law 16) 16 lv st w nx K Rt = (nx 17 lv (.int (1 : Int32) :: st) w) := id rfl
theorem sL_law_19 (lv : zL) (st : List Value) (w : zW) (nx K : Nat → zL → List Value → zW → Prop) (Rt : Option Value → zW → Prop) : z_st1 (tL_law 19) 19 lv st w nx K Rt = (z_1a st (fun x r => z_ok1 lv 3 = true ∧ nx 20 (lv.set 3 (some (.ref x))) r w)) := id rfl
theorem sL_law_20 (lv : zL) (st : List Value) (w : zW) (nx K : Nat → zL → List Value → zW → Prop) (Rt : Option Value → zW → Prop) : z_st1 (tL_law 20) 20 lv st w nx K Rt = (nx 21 lv (.int (0 : Int32) :: st) w) := id rfl
theorem sL_law_21 (lv : zL) (st : List Value) (w : zW) (nx K : Nat → zL → List Value → zW → Prop) (Rt : Option Value → zW → Prop) : z_st1 (tL_law 21) 21 lv st w nx K Rt = (z_1i st (fun x r => z_ok1 lv 4 = true ∧ nx 23 (lv.set 4 (some (.int x))) r w)) := id rfl
theorem sL_law_23 (lv : zL) (st : List Value) (w : zW) (nx K : Nat → zL → List Value → zW → Prop) (Rt : Option Value → zW → Prop) : z_st1 (tL_law 23) 23 lv st w nx K Rt = (z_li lv 4 (fun x => nx 25 lv (.int x :: st) w)) := id rfl
theorem sL_law_25 (lv : zL) (st : List Value) (w : zW) (nx K : Nat → zL → List Value → zW → Prop) (Rt : Option Value → zW → Prop) : z_st1 (tL_law 25) 25 lv st w nx K Rt = (z_la lv 0 (fun x => nx 26 lv (.ref x :: st) w)) := id rfl
theorem sL_law_27 (lv : zL) (st : List Value) (w : zW) (nx K : Nat → zL → List Value → zW → Prop) (Rt : Option Value → zW → Prop) : z_st1 (tL_law 27) 27 lv st w nx K Rt = (nx 28 lv (.int (5 : Int32) :: st) w) := id rfl
theorem sL_law_28 (lv : zL) (st : List Value) (w : zW) (nx K : Nat → zL → List Value → zW → Prop) (Rt : Option Value → zW → Prop) : z_st1 (tL_law 28) 28 lv st w nx K Rt = (z_2i st (fun x y r => nx 29 lv (.int (x - y) :: r) w)) := id rfl
theorem sL_law_29 (lv : zL) (st : List Value) (w : zW) (nx K : Nat → zL → List Value → zW → Prop) (Rt : Option Value → zW → Prop) : z_st1 (tL_law 29) 29 lv st w nx K Rt = (z_2i st (fun x y r => (y < x → nx 789 lv r w) ∧ (¬ y < x → nx 32 lv r w))) := id rfl
theorem sL_law_32 (lv : zL) (st : List Value) (w : zW) (nx K : Nat → zL → List Value → zW → Prop) (Rt : Option Value → zW → Prop) : z_st1 (tL_law 32) 32 lv st w nx K Rt = (z_la lv 0 (fun x => nx 33 lv (.ref x :: st) w)) := id rfl
theorem sL_law_33 (lv : zL) (st : List Value) (w : zW) (nx K : Nat → zL → List Value → zW → Prop) (Rt : Option Value → zW → Prop) : z_st1 (tL_law 33) 33 lv st w nx K Rt = (z_li lv 4 (fun x => nx 35 lv (.int x :: st) w)) := id rfl
theorem sL_law_36 (lv : zL) (st : List Value) (w : zW) (nx K : Nat → zL → List Value → zW → Prop) (Rt : Option Value → zW → Prop) : z_st1 (tL_law 36) 36 lv st w nx K Rt = (nx 38 lv (.int (31 : Int32) :: st) w) := id rfl
theorem sL_law_38 (lv : zL) (st : List Value) (w : zW) (nx K : Nat → zL → List Value → zW → Prop) (Rt : Option Value → zW → Prop) : z_st1 (tL_law 38) 38 lv st w nx K Rt = (z_2i st (fun x y r => nx 39 lv (.int (x &&& y) :: r) w)) := id rfl
theorem sL_law_124 (lv : zL) (st : List Value) (w : zW) (nx K : Nat → zL → List Value → zW → Prop) (Rt : Option Value → zW → Prop) : z_st1 (tL_law 124) 124 lv st w nx K Rt = (z_la lv 1 (fun x => nx 125 lv (.ref x :: st) w)) := id rfl
theorem sL_law_125 (lv : zL) (st : List Value) (w : zW) (nx K : Nat → zL → List Value → zW → Prop) (Rt : Option Value → zW → Prop) : z_st1 (tL_law 125) 125 lv st w nx K Rt = (z_la lv 0 (fun x => nx 126 lv (.ref x :: st) w)) := id rfl
theorem sL_law_126 (lv : zL) (st : List Value) (w : zW) (nx K : Nat → zL → List Value → zW → Prop) (Rt : Option Value → zW → Prop) : z_st1 (tL_law 126) 126 lv st w nx K Rt = (z_li lv 4 (fun x => nx 128 lv (.int x :: st) w)) := id rfl
theorem sL_law_128 (lv : zL) (st : List Value) (w : zW) (nx K : Nat → zL → List Value → zW → Prop) (Rt : Option Value → zW → Prop) : z_st1 (tL_law 128) 128 lv st w nx K Rt = (nx 129 lv (.int (1 : Int32) :: st) w) := id rfl
theorem sL_law_129 (lv : zL) (st : List Value) (w : zW) (nx K : Nat → zL → List Value → zW → Prop) (Rt : Option Value → zW → Prop) : z_st1 (tL_law 129) 129 lv st w nx K Rt = (z_2i st (fun x y r => nx 130 lv (.int (x + y) :: r) w)) := id rfl
theorem sL_law_131 (lv : zL) (st : List Value) (w : zW) (nx K : Nat → zL → List Value → zW → Prop) (Rt : Option Value → zW → Prop) : z_st1 (tL_law 131) 131 lv st w nx K Rt = (z_la lv 3 (fun x => nx 132 lv (.ref x :: st) w)) := id rfl
theorem sL_law_135 (lv : zL) (st : List Value) (w : zW) (nx K : Nat → zL → List Value → zW → Prop) (Rt : Option Value → zW → Prop) : z_st1 (tL_law 135) 135 lv st w nx K Rt = (z_1i st (fun x r => z_ok1 lv 5 = true ∧ nx 137 (lv.set 5 (some (.int x))) r w)) := id rfl
theorem sL_law_137 (lv : zL) (st : List Value) (w : zW) (nx K : Nat → zL → List Value → zW → Prop) (Rt : Option Value → zW → Prop) : z_st1 (tL_law 137) 137 lv st w nx K Rt = (z_la lv 2 (fun x => nx 138 lv (.ref x :: st) w)) := id rfl
theorem sL_law_138 (lv : zL) (st : List Value) (w : zW) (nx K : Nat → zL → List Value → zW → Prop) (Rt : Option Value → zW → Prop) : z_st1 (tL_law 138) 138 lv st w nx K Rt = (z_la lv 0 (fun x => nx 139 lv (.ref x :: st) w)) := id rfl
theorem sL_law_139 (lv : zL) (st : List Value) (w : zW) (nx K : Nat → zL → List Value → zW → Prop) (Rt : Option Value → zW → Prop) : z_st1 (tL_law 139) 139 lv st w nx K Rt = (z_li lv 4 (fun x => nx 141 lv (.int x :: st) w)) := id rfl
theorem sL_law_141 (lv : zL) (st : List Value) (w : zW) (nx K : Nat → zL → List Value → zW → Prop) (Rt : Option Value → zW → Prop) : z_st1 (tL_law 141) 141 lv st w nx K Rt = (nx 142 lv (.int (1 : Int32) :: st) w) := id rfl
theorem sL_law_142 (lv : zL) (st : List Value) (w : zW) (nx K : Nat → zL → List Value → zW → Prop) (Rt : Option Value → zW → Prop) : z_st1 (tL_law 142) 142 lv st w nx K Rt = (z_2i st (fun x y r => nx 143 lv (.int (x + y) :: r) w)) := id rfl
theorem sL_law_147 (lv : zL) (st : List Value) (w : zW) (nx K : Nat → zL → List Value → zW → Prop) (Rt : Option Value → zW → Prop) : z_st1 (tL_law 147) 147 lv st w nx K Rt = (z_1i st (fun x r => z_ok1 lv 6 = true ∧ nx 149 (lv.set 6 (some (.int x))) r w)) := id rfl
theorem sL_law_149 (lv : zL) (st : List Value) (w : zW) (nx K : Nat → zL → List Value → zW → Prop) (Rt : Option Value → zW → Prop) : z_st1 (tL_law 149) 149 lv st w nx K Rt = (z_la lv 2 (fun x => nx 150 lv (.ref x :: st) w)) := id rfl
theorem sL_law_153 (lv : zL) (st : List Value) (w : zW) (nx K : Nat → zL → List Value → zW → Prop) (Rt : Option Value → zW → Prop) : z_st1 (tL_law 153) 153 lv st w nx K Rt = (z_li lv 5 (fun x => nx 155 lv (.int x :: st) w)) := id rfl
theorem sL_law_155 (lv : zL) (st : List Value) (w : zW) (nx K : Nat → zL → List Value → zW → Prop) (Rt : Option Value → zW → Prop) : z_st1 (tL_law 155) 155 lv st w nx K Rt = (z_2i st (fun x y r => (x = y → nx 160 lv r w) ∧ (¬ x = y → nx 158 lv r w))) := id rfl
theorem sL_law_158 (lv : zL) (st : List Value) (w : zW) (nx K : Nat → zL → List Value → zW → Prop) (Rt : Option Value → zW → Prop) : z_st1 (tL_law 158) 158 lv st w nx K Rt = (nx 159 lv (.int (0 : Int32) :: st) w) := id rfl
theorem sL_law_159 (lv : zL) (st : List Value) (w : zW) (nx K : Nat → zL → List Value → zW → Prop) (Rt : Option Value → zW → Prop) : z_st1 (tL_law 159) 159 lv st w nx K Rt = (z_e1 st (fun x => (x = 0 ∨ x = 1) ∧ Rt (some (.int x)) w)) := id rfl
theorem sL_law_160 (lv : zL) (st : List Value) (w : zW) (nx K : Nat → zL → List Value → zW → Prop) (Rt : Option Value → zW → Prop) : z_st1 (tL_law 160) 160 lv st w nx K Rt = (z_li lv 5 (fun x => nx 162 lv (.int x :: st) w)) := id rfl
theorem sL_law_162 (lv : zL) (st : List Value) (w : zW) (nx K : Nat → zL → List Value → zW → Prop) (Rt : Option Value → zW → Prop) : z_st1 (tL_law 162) 162 lv st w nx K Rt = (z_1i st (fun x r => (¬ x = 0 → nx 177 lv r w) ∧ (x = 0 → nx 165 lv r w))) := id rfl
theorem sL_law_165 (lv : zL) (st : List Value) (w : zW) (nx K : Nat → zL → List Value → zW → Prop) (Rt : Option Value → zW → Prop) : z_st1 (tL_law 165) 165 lv st w nx K Rt = (z_la lv 3 (fun x => nx 166 lv (.ref x :: st) w)) := id rfl
theorem sL_law_166 (lv : zL) (st : List Value) (w : zW) (nx K : Nat → zL → List Value → zW → Prop) (Rt : Option Value → zW → Prop) : z_st1 (tL_law 166) 166 lv st w nx K Rt = (nx 167 lv (.int (0 : Int32) :: st) w) := id rfl
theorem sL_law_167 (lv : zL) (st : List Value) (w : zW) (nx K : Nat → zL → List Value → zW → Prop) (Rt : Option Value → zW → Prop) : z_st1 (tL_law 167) 167 lv st w nx K Rt = (z_ia st (fun x i r => z_ar2 w x (fun m g => vp_in i m ∧ nx 168 lv (.long (g i.toNatClampNeg) :: r) w))) := id rfl
theorem sL_law_168 (lv : zL) (st : List Value) (w : zW) (nx K : Nat → zL → List Value → zW → Prop) (Rt : Option Value → zW → Prop) : z_st1 (tL_law 168) 168 lv st w nx K Rt = (z_li lv 6 (fun x => nx 170 lv (.int x :: st) w)) := id rfl
theorem sL_law_170 (lv : zL) (st : List Value) (w : zW) (nx K : Nat → zL → List Value → zW → Prop) (Rt : Option Value → zW → Prop) : z_st1 (tL_law 170) 170 lv st w nx K Rt = (z_1i st (fun x r => nx 171 lv (.long x.toInt64 :: r) w)) := id rfl
theorem sL_law_171 (lv : zL) (st : List Value) (w : zW) (nx K : Nat → zL → List Value → zW → Prop) (Rt : Option Value → zW → Prop) : z_st1 (tL_law 171) 171 lv st w nx K Rt = (z_2l st (fun x y r => nx 172 lv (.int (lg_cmp x y) :: r) w)) := id rfl
theorem sL_law_172 (lv : zL) (st : List Value) (w : zW) (nx K : Nat → zL → List Value → zW → Prop) (Rt : Option Value → zW → Prop) : z_st1 (tL_law 172) 172 lv st w nx K Rt = (z_1i st (fun x r => (x = 0 → nx 177 lv r w) ∧ (¬ x = 0 → nx 175 lv r w))) := id rfl
theorem sL_law_175 (lv : zL) (st : List Value) (w : zW) (nx K : Nat → zL → List Value → zW → Prop) (Rt : Option Value → zW → Prop) : z_st1 (tL_law 175) 175 lv st w nx K Rt = (nx 176 lv (.int (0 : Int32) :: st) w) := id rfl
theorem sL_law_176 (lv : zL) (st : List Value) (w : zW) (nx K : Nat → zL → List Value → zW → Prop) (Rt : Option Value → zW → Prop) : z_st1 (tL_law 176) 176 lv st w nx K Rt = (z_e1 st (fun x => (x = 0 ∨ x = 1) ∧ Rt (some (.int x)) w)) := id rfl
theorem sL_law_177 (lv : zL) (st : List Value) (w : zW) (nx K : Nat → zL → List Value → zW → Prop) (Rt : Option Value → zW → Prop) : z_st1 (tL_law 177) 177 lv st w nx K Rt = (nx 783 lv st w) := id rfl
theorem sL_law_180 (lv : zL) (st : List Value) (w : zW) (nx K : Nat → zL → List Value → zW → Prop) (Rt : Option Value → zW → Prop) : z_st1 (tL_law 180) 180 lv st w nx K Rt = (z_la lv 1 (fun x => nx 181 lv (.ref x :: st) w)) := id rfl
theorem sL_law_181 (lv : zL) (st : List Value) (w : zW) (nx K : Nat → zL → List Value → zW → Prop) (Rt : Option Value → zW → Prop) : z_st1 (tL_law 181) 181 lv st w nx K Rt = (z_la lv 0 (fun x => nx 182 lv (.ref x :: st) w)) := id rfl
theorem sL_law_182 (lv : zL) (st : List Value) (w : zW) (nx K : Nat → zL → List Value → zW → Prop) (Rt : Option Value → zW → Prop) : z_st1 (tL_law 182) 182 lv st w nx K Rt = (z_li lv 4 (fun x => nx 184 lv (.int x :: st) w)) := id rfl
theorem sL_law_184 (lv : zL) (st : List Value) (w : zW) (nx K : Nat → zL → List Value → zW → Prop) (Rt : Option Value → zW → Prop) : z_st1 (tL_law 184) 184 lv st w nx K Rt = (nx 185 lv (.int (1 : Int32) :: st) w) := id rfl
theorem sL_law_185 (lv : zL) (st : List Value) (w : zW) (nx K : Nat → zL → List Value → zW → Prop) (Rt : Option Value → zW → Prop) : z_st1 (tL_law 185) 185 lv st w nx K Rt = (z_2i st (fun x y r => nx 186 lv (.int (x + y) :: r) w)) := id rfl
theorem sL_law_190 (lv : zL) (st : List Value) (w : zW) (nx K : Nat → zL → List Value → zW → Prop) (Rt : Option Value → zW → Prop) : z_st1 (tL_law 190) 190 lv st w nx K Rt = (z_la lv 2 (fun x => nx 191 lv (.ref x :: st) w)) := id rfl
theorem sL_law_191 (lv : zL) (st : List Value) (w : zW) (nx K : Nat → zL → List Value → zW → Prop) (Rt : Option Value → zW → Prop) : z_st1 (tL_law 191) 191 lv st w nx K Rt = (z_la lv 0 (fun x => nx 192 lv (.ref x :: st) w)) := id rfl
theorem sL_law_192 (lv : zL) (st : List Value) (w : zW) (nx K : Nat → zL → List Value → zW → Prop) (Rt : Option Value → zW → Prop) : z_st1 (tL_law 192) 192 lv st w nx K Rt = (z_li lv 4 (fun x => nx 194 lv (.int x :: st) w)) := id rfl
theorem sL_law_194 (lv : zL) (st : List Value) (w : zW) (nx K : Nat → zL → List Value → zW → Prop) (Rt : Option Value → zW → Prop) : z_st1 (tL_law 194) 194 lv st w nx K Rt = (nx 195 lv (.int (1 : Int32) :: st) w) := id rfl
theorem sL_law_195 (lv : zL) (st : List Value) (w : zW) (nx K : Nat → zL → List Value → zW → Prop) (Rt : Option Value → zW → Prop) : z_st1 (tL_law 195) 195 lv st w nx K Rt = (z_2i st (fun x y r => nx 196 lv (.int (x + y) :: r) w)) := id rfl
theorem sL_law_200 (lv : zL) (st : List Value) (w : zW) (nx K : Nat → zL → List Value → zW → Prop) (Rt : Option Value → zW → Prop) : z_st1 (tL_law 200) 200 lv st w nx K Rt = (z_2i st (fun x y r => (x = y → nx 783 lv r w) ∧ (¬ x = y → nx 203 lv r w))) := id rfl
theorem sL_law_203 (lv : zL) (st : List Value) (w : zW) (nx K : Nat → zL → List Value → zW → Prop) (Rt : Option Value → zW → Prop) : z_st1 (tL_law 203) 203 lv st w nx K Rt = (nx 204 lv (.int (0 : Int32) :: st) w) := id rfl
theorem sL_law_204 (lv : zL) (st : List Value) (w : zW) (nx K : Nat → zL → List Value → zW → Prop) (Rt : Option Value → zW → Prop) : z_st1 (tL_law 204) 204 lv st w nx K Rt = (z_e1 st (fun x => (x = 0 ∨ x = 1) ∧ Rt (some (.int x)) w)) := id rfl
theorem sL_law_205 (lv : zL) (st : List Value) (w : zW) (nx K : Nat → zL → List Value → zW → Prop) (Rt : Option Value → zW → Prop) : z_st1 (tL_law 205) 205 lv st w nx K Rt = (z_la lv 1 (fun x => nx 206 lv (.ref x :: st) w)) := id rfl
theorem sL_law_206 (lv : zL) (st : List Value) (w : zW) (nx K : Nat → zL → List Value → zW → Prop) (Rt : Option Value → zW → Prop) : z_st1 (tL_law 206) 206 lv st w nx K Rt = (z_la lv 0 (fun x => nx 207 lv (.ref x :: st) w)) := id rfl
theorem sL_law_207 (lv : zL) (st : List Value) (w : zW) (nx K : Nat → zL → List Value → zW → Prop) (Rt : Option Value → zW → Prop) : z_st1 (tL_law 207) 207 lv st w nx K Rt = (z_li lv 4 (fun x => nx 209 lv (.int x :: st) w)) := id rfl
theorem sL_law_209 (lv : zL) (st : List Value) (w : zW) (nx K : Nat → zL → List Value → zW → Prop) (Rt : Option Value → zW → Prop) : z_st1 (tL_law 209) 209 lv st w nx K Rt = (nx 210 lv (.int (1 : Int32) :: st) w) := id rfl
theorem sL_law_210 (lv : zL) (st : List Value) (w : zW) (nx K : Nat → zL → List Value → zW → Prop) (Rt : Option Value → zW → Prop) : z_st1 (tL_law 210) 210 lv st w nx K Rt = (z_2i st (fun x y r => nx 211 lv (.int (x + y) :: r) w)) := id rfl
theorem sL_law_212 (lv : zL) (st : List Value) (w : zW) (nx K : Nat → zL → List Value → zW → Prop) (Rt : Option Value → zW → Prop) : z_st1 (tL_law 212) 212 lv st w nx K Rt = (z_la lv 0 (fun x => nx 213 lv (.ref x :: st) w)) := id rfl
theorem sL_law_213 (lv : zL) (st : List Value) (w : zW) (nx K : Nat → zL → List Value → zW → Prop) (Rt : Option Value → zW → Prop) : z_st1 (tL_law 213) 213 lv st w nx K Rt = (z_li lv 4 (fun x => nx 215 lv (.int x :: st) w)) := id rfl
theorem sL_law_215 (lv : zL) (st : List Value) (w : zW) (nx K : Nat → zL → List Value → zW → Prop) (Rt : Option Value → zW → Prop) : z_st1 (tL_law 215) 215 lv st w nx K Rt = (nx 216 lv (.int (2 : Int32) :: st) w) := id rfl
theorem sL_law_216 (lv : zL) (st : List Value) (w : zW) (nx K : Nat → zL → List Value → zW → Prop) (Rt : Option Value → zW → Prop) : z_st1 (tL_law 216) 216 lv st w nx K Rt = (z_2i st (fun x y r => nx 217 lv (.int (x + y) :: r) w)) := id rfl
theorem sL_law_218 (lv : zL) (st : List Value) (w : zW) (nx K : Nat → zL → List Value → zW → Prop) (Rt : Option Value → zW → Prop) : z_st1 (tL_law 218) 218 lv st w nx K Rt = (z_la lv 0 (fun x => nx 219 lv (.ref x :: st) w)) := id rfl
theorem sL_law_219 (lv : zL) (st : List Value) (w : zW) (nx K : Nat → zL → List Value → zW → Prop) (Rt : Option Value → zW → Prop) : z_st1 (tL_law 219) 219 lv st w nx K Rt = (z_li lv 4 (fun x => nx 221 lv (.int x :: st) w)) := id rfl
theorem sL_law_221 (lv : zL) (st : List Value) (w : zW) (nx K : Nat → zL → List Value → zW → Prop) (Rt : Option Value → zW → Prop) : z_st1 (tL_law 221) 221 lv st w nx K Rt = (nx 222 lv (.int (3 : Int32) :: st) w) := id rfl
theorem sL_law_222 (lv : zL) (st : List Value) (w : zW) (nx K : Nat → zL → List Value → zW → Prop) (Rt : Option Value → zW → Prop) : z_st1 (tL_law 222) 222 lv st w nx K Rt = (z_2i st (fun x y r => nx 223 lv (.int (x + y) :: r) w)) := id rfl
theorem sL_law_224 (lv : zL) (st : List Value) (w : zW) (nx K : Nat → zL → List Value → zW → Prop) (Rt : Option Value → zW → Prop) : z_st1 (tL_law 224) 224 lv st w nx K Rt = (z_la lv 0 (fun x => nx 225 lv (.ref x :: st) w)) := id rfl
theorem sL_law_225 (lv : zL) (st : List Value) (w : zW) (nx K : Nat → zL → List Value → zW → Prop) (Rt : Option Value → zW → Prop) : z_st1 (tL_law 225) 225 lv st w nx K Rt = (z_li lv 4 (fun x => nx 227 lv (.int x :: st) w)) := id rfl
theorem sL_law_227 (lv : zL) (st : List Value) (w : zW) (nx K : Nat → zL → List Value → zW → Prop) (Rt : Option Value → zW → Prop) : z_st1 (tL_law 227) 227 lv st w nx K Rt = (nx 228 lv (.int (4 : Int32) :: st) w) := id rfl
theorem sL_law_228 (lv : zL) (st : List Value) (w : zW) (nx K : Nat → zL → List Value → zW → Prop) (Rt : Option Value → zW → Prop) : z_st1 (tL_law 228) 228 lv st w nx K Rt = (z_2i st (fun x y r => nx 229 lv (.int (x + y) :: r) w)) := id rfl
theorem sL_law_230 (lv : zL) (st : List Value) (w : zW) (nx K : Nat → zL → List Value → zW → Prop) (Rt : Option Value → zW → Prop) : z_st1 (tL_law 230) 230 lv st w nx K Rt = (z_1i st (fun x r => (x = 0 → nx 237 lv r w) ∧ (¬ x = 0 → nx 233 lv r w))) := id rfl
theorem sL_law_233 (lv : zL) (st : List Value) (w : zW) (nx K : Nat → zL → List Value → zW → Prop) (Rt : Option Value → zW → Prop) : z_st1 (tL_law 233) 233 lv st w nx K Rt = (nx 234 lv (.int (1 : Int32) :: st) w) := id rfl
theorem sL_law_234 (lv : zL) (st : List Value) (w : zW) (nx K : Nat → zL → List Value → zW → Prop) (Rt : Option Value → zW → Prop) : z_st1 (tL_law 234) 234 lv st w nx K Rt = (nx 238 lv st w) := id rfl
theorem sL_law_237 (lv : zL) (st : List Value) (w : zW) (nx K : Nat → zL → List Value → zW → Prop) (Rt : Option Value → zW → Prop) : z_st1 (tL_law 237) 237 lv st w nx K Rt = (nx 238 lv (.int (0 : Int32) :: st) w) := id rfl
theorem sL_law_241 (lv : zL) (st : List Value) (w : zW) (nx K : Nat → zL → List Value → zW → Prop) (Rt : Option Value → zW → Prop) : z_st1 (tL_law 241) 241 lv st w nx K Rt = (z_la lv 2 (fun x => nx 242 lv (.ref x :: st) w)) := id rfl
theorem sL_law_242 (lv : zL) (st : List Value) (w : zW) (nx K : Nat → zL → List Value → zW → Prop) (Rt : Option Value → zW → Prop) : z_st1 (tL_law 242) 242 lv st w nx K Rt = (z_la lv 0 (fun x => nx 243 lv (.ref x :: st) w)) := id rfl
theorem sL_law_243 (lv : zL) (st : List Value) (w : zW) (nx K : Nat → zL → List Value → zW → Prop) (Rt : Option Value → zW → Prop) : z_st1 (tL_law 243) 243 lv st w nx K Rt = (z_li lv 4 (fun x => nx 245 lv (.int x :: st) w)) := id rfl
theorem sL_law_245 (lv : zL) (st : List Value) (w : zW) (nx K : Nat → zL → List Value → zW → Prop) (Rt : Option Value → zW → Prop) : z_st1 (tL_law 245) 245 lv st w nx K Rt = (nx 246 lv (.int (1 : Int32) :: st) w) := id rfl
theorem sL_law_246 (lv : zL) (st : List Value) (w : zW) (nx K : Nat → zL → List Value → zW → Prop) (Rt : Option Value → zW → Prop) : z_st1 (tL_law 246) 246 lv st w nx K Rt = (z_2i st (fun x y r => nx 247 lv (.int (x + y) :: r) w)) := id rfl
theorem sL_law_248 (lv : zL) (st : List Value) (w : zW) (nx K : Nat → zL → List Value → zW → Prop) (Rt : Option Value → zW → Prop) : z_st1 (tL_law 248) 248 lv st w nx K Rt = (z_la lv 0 (fun x => nx 249 lv (.ref x :: st) w)) := id rfl
theorem sL_law_249 (lv : zL) (st : List Value) (w : zW) (nx K : Nat → zL → List Value → zW → Prop) (Rt : Option Value → zW → Prop) : z_st1 (tL_law 249) 249 lv st w nx K Rt = (z_li lv 4 (fun x => nx 251 lv (.int x :: st) w)) := id rfl
theorem sL_law_251 (lv : zL) (st : List Value) (w : zW) (nx K : Nat → zL → List Value → zW → Prop) (Rt : Option Value → zW → Prop) : z_st1 (tL_law 251) 251 lv st w nx K Rt = (nx 252 lv (.int (2 : Int32) :: st) w) := id rfl
theorem sL_law_252 (lv : zL) (st : List Value) (w : zW) (nx K : Nat → zL → List Value → zW → Prop) (Rt : Option Value → zW → Prop) : z_st1 (tL_law 252) 252 lv st w nx K Rt = (z_2i st (fun x y r => nx 253 lv (.int (x + y) :: r) w)) := id rfl
theorem sL_law_254 (lv : zL) (st : List Value) (w : zW) (nx K : Nat → zL → List Value → zW → Prop) (Rt : Option Value → zW → Prop) : z_st1 (tL_law 254) 254 lv st w nx K Rt = (z_la lv 0 (fun x => nx 255 lv (.ref x :: st) w)) := id rfl
theorem sL_law_255 (lv : zL) (st : List Value) (w : zW) (nx K : Nat → zL → List Value → zW → Prop) (Rt : Option Value → zW → Prop) : z_st1 (tL_law 255) 255 lv st w nx K Rt = (z_li lv 4 (fun x => nx 257 lv (.int x :: st) w)) := id rfl
theorem sL_law_257 (lv : zL) (st : List Value) (w : zW) (nx K : Nat → zL → List Value → zW → Prop) (Rt : Option Value → zW → Prop) : z_st1 (tL_law 257) 257 lv st w nx K Rt = (nx 258 lv (.int (3 : Int32) :: st) w) := id rfl
theorem sL_law_258 (lv : zL) (st : List Value) (w : zW) (nx K : Nat → zL → List Value → zW → Prop) (Rt : Option Value → zW → Prop) : z_st1 (tL_law 258) 258 lv st w nx K Rt = (z_2i st (fun x y r => nx 259 lv (.int (x + y) :: r) w)) := id rfl
theorem sL_law_260 (lv : zL) (st : List Value) (w : zW) (nx K : Nat → zL → List Value → zW → Prop) (Rt : Option Value → zW → Prop) : z_st1 (tL_law 260) 260 lv st w nx K Rt = (z_la lv 0 (fun x => nx 261 lv (.ref x :: st) w)) := id rfl
theorem sL_law_261 (lv : zL) (st : List Value) (w : zW) (nx K : Nat → zL → List Value → zW → Prop) (Rt : Option Value → zW → Prop) : z_st1 (tL_law 261) 261 lv st w nx K Rt = (z_li lv 4 (fun x => nx 263 lv (.int x :: st) w)) := id rfl
theorem sL_law_263 (lv : zL) (st : List Value) (w : zW) (nx K : Nat → zL → List Value → zW → Prop) (Rt : Option Value → zW → Prop) : z_st1 (tL_law 263) 263 lv st w nx K Rt = (nx 264 lv (.int (4 : Int32) :: st) w) := id rfl
theorem sL_law_264 (lv : zL) (st : List Value) (w : zW) (nx K : Nat → zL → List Value → zW → Prop) (Rt : Option Value → zW → Prop) : z_st1 (tL_law 264) 264 lv st w nx K Rt = (z_2i st (fun x y r => nx 265 lv (.int (x + y) :: r) w)) := id rfl
theorem sL_law_266 (lv : zL) (st : List Value) (w : zW) (nx K : Nat → zL → List Value → zW → Prop) (Rt : Option Value → zW → Prop) : z_st1 (tL_law 266) 266 lv st w nx K Rt = (z_1i st (fun x r => (x = 0 → nx 273 lv r w) ∧ (¬ x = 0 → nx 269 lv r w))) := id rfl
theorem sL_law_269 (lv : zL) (st : List Value) (w : zW) (nx K : Nat → zL → List Value → zW → Prop) (Rt : Option Value → zW → Prop) : z_st1 (tL_law 269) 269 lv st w nx K Rt = (nx 270 lv (.int (1 : Int32) :: st) w) := id rfl
theorem sL_law_270 (lv : zL) (st : List Value) (w : zW) (nx K : Nat → zL → List Value → zW → Prop) (Rt : Option Value → zW → Prop) : z_st1 (tL_law 270) 270 lv st w nx K Rt = (nx 274 lv st w) := id rfl
theorem sL_law_273 (lv : zL) (st : List Value) (w : zW) (nx K : Nat → zL → List Value → zW → Prop) (Rt : Option Value → zW → Prop) : z_st1 (tL_law 273) 273 lv st w nx K Rt = (nx 274 lv (.int (0 : Int32) :: st) w) := id rfl
theorem sL_law_277 (lv : zL) (st : List Value) (w : zW) (nx K : Nat → zL → List Value → zW → Prop) (Rt : Option Value → zW → Prop) : z_st1 (tL_law 277) 277 lv st w nx K Rt = (z_2i st (fun x y r => (x = y → nx 783 lv r w) ∧ (¬ x = y → nx 280 lv r w))) := id rfl
theorem sL_law_280 (lv : zL) (st : List Value) (w : zW) (nx K : Nat → zL → List Value → zW → Prop) (Rt : Option Value → zW → Prop) : z_st1 (tL_law 280) 280 lv st w nx K Rt = (nx 281 lv (.int (0 : Int32) :: st) w) := id rfl
theorem sL_law_281 (lv : zL) (st : List Value) (w : zW) (nx K : Nat → zL → List Value → zW → Prop) (Rt : Option Value → zW → Prop) : z_st1 (tL_law 281) 281 lv st w nx K Rt = (z_e1 st (fun x => (x = 0 ∨ x = 1) ∧ Rt (some (.int x)) w)) := id rfl
theorem sL_law_282 (lv : zL) (st : List Value) (w : zW) (nx K : Nat → zL → List Value → zW → Prop) (Rt : Option Value → zW → Prop) : z_st1 (tL_law 282) 282 lv st w nx K Rt = (z_la lv 1 (fun x => nx 283 lv (.ref x :: st) w)) := id rfl
theorem sL_law_286 (lv : zL) (st : List Value) (w : zW) (nx K : Nat → zL → List Value → zW → Prop) (Rt : Option Value → zW → Prop) : z_st1 (tL_law 286) 286 lv st w nx K Rt = (z_la lv 2 (fun x => nx 287 lv (.ref x :: st) w)) := id rfl
theorem sL_law_290 (lv : zL) (st : List Value) (w : zW) (nx K : Nat → zL → List Value → zW → Prop) (Rt : Option Value → zW → Prop) : z_st1 (tL_law 290) 290 lv st w nx K Rt = (z_2i st (fun x y r => (x = y → nx 783 lv r w) ∧ (¬ x = y → nx 293 lv r w))) := id rfl
theorem sL_law_293 (lv : zL) (st : List Value) (w : zW) (nx K : Nat → zL → List Value → zW → Prop) (Rt : Option Value → zW → Prop) : z_st1 (tL_law 293) 293 lv st w nx K Rt = (nx 294 lv (.int (0 : Int32) :: st) w) := id rfl
theorem sL_law_294 (lv : zL) (st : List Value) (w : zW) (nx K : Nat → zL → List Value → zW → Prop) (Rt : Option Value → zW → Prop) : z_st1 (tL_law 294) 294 lv st w nx K Rt = (z_e1 st (fun x => (x = 0 ∨ x = 1) ∧ Rt (some (.int x)) w)) := id rfl
theorem sL_law_295 (lv : zL) (st : List Value) (w : zW) (nx K : Nat → zL → List Value → zW → Prop) (Rt : Option Value → zW → Prop) : z_st1 (tL_law 295) 295 lv st w nx K Rt = (z_la lv 1 (fun x => nx 296 lv (.ref x :: st) w)) := id rfl
theorem sL_law_296 (lv : zL) (st : List Value) (w : zW) (nx K : Nat → zL → List Value → zW → Prop) (Rt : Option Value → zW → Prop) : z_st1 (tL_law 296) 296 lv st w nx K Rt = (z_la lv 0 (fun x => nx 297 lv (.ref x :: st) w)) := id rfl
theorem sL_law_297 (lv : zL) (st : List Value) (w : zW) (nx K : Nat → zL → List Value → zW → Prop) (Rt : Option Value → zW → Prop) : z_st1 (tL_law 297) 297 lv st w nx K Rt = (z_li lv 4 (fun x => nx 299 lv (.int x :: st) w)) := id rfl
theorem sL_law_299 (lv : zL) (st : List Value) (w : zW) (nx K : Nat → zL → List Value → zW → Prop) (Rt : Option Value → zW → Prop) : z_st1 (tL_law 299) 299 lv st w nx K Rt = (nx 300 lv (.int (1 : Int32) :: st) w) := id rfl
theorem sL_law_300 (lv : zL) (st : List Value) (w : zW) (nx K : Nat → zL → List Value → zW → Prop) (Rt : Option Value → zW → Prop) : z_st1 (tL_law 300) 300 lv st w nx K Rt = (z_2i st (fun x y r => nx 301 lv (.int (x + y) :: r) w)) := id rfl
theorem sL_law_302 (lv : zL) (st : List Value) (w : zW) (nx K : Nat → zL → List Value → zW → Prop) (Rt : Option Value → zW → Prop) : z_st1 (tL_law 302) 302 lv st w nx K Rt = (z_la lv 0 (fun x => nx 303 lv (.ref x :: st) w)) := id rfl
theorem sL_law_303 (lv : zL) (st : List Value) (w : zW) (nx K : Nat → zL → List Value → zW → Prop) (Rt : Option Value → zW → Prop) : z_st1 (tL_law 303) 303 lv st w nx K Rt = (z_li lv 4 (fun x => nx 305 lv (.int x :: st) w)) := id rfl
theorem sL_law_305 (lv : zL) (st : List Value) (w : zW) (nx K : Nat → zL → List Value → zW → Prop) (Rt : Option Value → zW → Prop) : z_st1 (tL_law 305) 305 lv st w nx K Rt = (nx 306 lv (.int (2 : Int32) :: st) w) := id rfl
theorem sL_law_306 (lv : zL) (st : List Value) (w : zW) (nx K : Nat → zL → List Value → zW → Prop) (Rt : Option Value → zW → Prop) : z_st1 (tL_law 306) 306 lv st w nx K Rt = (z_2i st (fun x y r => nx 307 lv (.int (x + y) :: r) w)) := id rfl
theorem sL_law_308 (lv : zL) (st : List Value) (w : zW) (nx K : Nat → zL → List Value → zW → Prop) (Rt : Option Value → zW → Prop) : z_st1 (tL_law 308) 308 lv st w nx K Rt = (z_la lv 0 (fun x => nx 309 lv (.ref x :: st) w)) := id rfl
theorem sL_law_309 (lv : zL) (st : List Value) (w : zW) (nx K : Nat → zL → List Value → zW → Prop) (Rt : Option Value → zW → Prop) : z_st1 (tL_law 309) 309 lv st w nx K Rt = (z_li lv 4 (fun x => nx 311 lv (.int x :: st) w)) := id rfl
theorem sL_law_311 (lv : zL) (st : List Value) (w : zW) (nx K : Nat → zL → List Value → zW → Prop) (Rt : Option Value → zW → Prop) : z_st1 (tL_law 311) 311 lv st w nx K Rt = (nx 312 lv (.int (3 : Int32) :: st) w) := id rfl
theorem sL_law_312 (lv : zL) (st : List Value) (w : zW) (nx K : Nat → zL → List Value → zW → Prop) (Rt : Option Value → zW → Prop) : z_st1 (tL_law 312) 312 lv st w nx K Rt = (z_2i st (fun x y r => nx 313 lv (.int (x + y) :: r) w)) := id rfl
theorem sL_law_317 (lv : zL) (st : List Value) (w : zW) (nx K : Nat → zL → List Value → zW → Prop) (Rt : Option Value → zW → Prop) : z_st1 (tL_law 317) 317 lv st w nx K Rt = (z_la lv 2 (fun x => nx 318 lv (.ref x :: st) w)) := id rfl
theorem sL_law_318 (lv : zL) (st : List Value) (w : zW) (nx K : Nat → zL → List Value → zW → Prop) (Rt : Option Value → zW → Prop) : z_st1 (tL_law 318) 318 lv st w nx K Rt = (z_la lv 0 (fun x => nx 319 lv (.ref x :: st) w)) := id rfl
theorem sL_law_319 (lv : zL) (st : List Value) (w : zW) (nx K : Nat → zL → List Value → zW → Prop) (Rt : Option Value → zW → Prop) : z_st1 (tL_law 319) 319 lv st w nx K Rt = (z_li lv 4 (fun x => nx 321 lv (.int x :: st) w)) := id rfl
theorem sL_law_321 (lv : zL) (st : List Value) (w : zW) (nx K : Nat → zL → List Value → zW → Prop) (Rt : Option Value → zW → Prop) : z_st1 (tL_law 321) 321 lv st w nx K Rt = (nx 322 lv (.int (1 : Int32) :: st) w) := id rfl
theorem sL_law_322 (lv : zL) (st : List Value) (w : zW) (nx K : Nat → zL → List Value → zW → Prop) (Rt : Option Value → zW → Prop) : z_st1 (tL_law 322) 322 lv st w nx K Rt = (z_2i st (fun x y r => nx 323 lv (.int (x + y) :: r) w)) := id rfl
theorem sL_law_324 (lv : zL) (st : List Value) (w : zW) (nx K : Nat → zL → List Value → zW → Prop) (Rt : Option Value → zW → Prop) : z_st1 (tL_law 324) 324 lv st w nx K Rt = (z_la lv 0 (fun x => nx 325 lv (.ref x :: st) w)) := id rfl
theorem sL_law_325 (lv : zL) (st : List Value) (w : zW) (nx K : Nat → zL → List Value → zW → Prop) (Rt : Option Value → zW → Prop) : z_st1 (tL_law 325) 325 lv st w nx K Rt = (z_li lv 4 (fun x => nx 327 lv (.int x :: st) w)) := id rfl
theorem sL_law_327 (lv : zL) (st : List Value) (w : zW) (nx K : Nat → zL → List Value → zW → Prop) (Rt : Option Value → zW → Prop) : z_st1 (tL_law 327) 327 lv st w nx K Rt = (nx 328 lv (.int (2 : Int32) :: st) w) := id rfl
theorem sL_law_328 (lv : zL) (st : List Value) (w : zW) (nx K : Nat → zL → List Value → zW → Prop) (Rt : Option Value → zW → Prop) : z_st1 (tL_law 328) 328 lv st w nx K Rt = (z_2i st (fun x y r => nx 329 lv (.int (x + y) :: r) w)) := id rfl
theorem sL_law_330 (lv : zL) (st : List Value) (w : zW) (nx K : Nat → zL → List Value → zW → Prop) (Rt : Option Value → zW → Prop) : z_st1 (tL_law 330) 330 lv st w nx K Rt = (z_la lv 0 (fun x => nx 331 lv (.ref x :: st) w)) := id rfl
theorem sL_law_331 (lv : zL) (st : List Value) (w : zW) (nx K : Nat → zL → List Value → zW → Prop) (Rt : Option Value → zW → Prop) : z_st1 (tL_law 331) 331 lv st w nx K Rt = (z_li lv 4 (fun x => nx 333 lv (.int x :: st) w)) := id rfl
theorem sL_law_333 (lv : zL) (st : List Value) (w : zW) (nx K : Nat → zL → List Value → zW → Prop) (Rt : Option Value → zW → Prop) : z_st1 (tL_law 333) 333 lv st w nx K Rt = (nx 334 lv (.int (3 : Int32) :: st) w) := id rfl
theorem sL_law_334 (lv : zL) (st : List Value) (w : zW) (nx K : Nat → zL → List Value → zW → Prop) (Rt : Option Value → zW → Prop) : z_st1 (tL_law 334) 334 lv st w nx K Rt = (z_2i st (fun x y r => nx 335 lv (.int (x + y) :: r) w)) := id rfl
theorem sL_law_339 (lv : zL) (st : List Value) (w : zW) (nx K : Nat → zL → List Value → zW → Prop) (Rt : Option Value → zW → Prop) : z_st1 (tL_law 339) 339 lv st w nx K Rt = (z_2i st (fun x y r => (x = y → nx 783 lv r w) ∧ (¬ x = y → nx 342 lv r w))) := id rfl
theorem sL_law_342 (lv : zL) (st : List Value) (w : zW) (nx K : Nat → zL → List Value → zW → Prop) (Rt : Option Value → zW → Prop) : z_st1 (tL_law 342) 342 lv st w nx K Rt = (nx 343 lv (.int (0 : Int32) :: st) w) := id rfl
theorem sL_law_343 (lv : zL) (st : List Value) (w : zW) (nx K : Nat → zL → List Value → zW → Prop) (Rt : Option Value → zW → Prop) : z_st1 (tL_law 343) 343 lv st w nx K Rt = (z_e1 st (fun x => (x = 0 ∨ x = 1) ∧ Rt (some (.int x)) w)) := id rfl
theorem sL_law_344 (lv : zL) (st : List Value) (w : zW) (nx K : Nat → zL → List Value → zW → Prop) (Rt : Option Value → zW → Prop) : z_st1 (tL_law 344) 344 lv st w nx K Rt = (z_la lv 1 (fun x => nx 345 lv (.ref x :: st) w)) := id rfl
theorem sL_law_345 (lv : zL) (st : List Value) (w : zW) (nx K : Nat → zL → List Value → zW → Prop) (Rt : Option Value → zW → Prop) : z_st1 (tL_law 345) 345 lv st w nx K Rt = (z_la lv 0 (fun x => nx 346 lv (.ref x :: st) w)) := id rfl
theorem sL_law_346 (lv : zL) (st : List Value) (w : zW) (nx K : Nat → zL → List Value → zW → Prop) (Rt : Option Value → zW → Prop) : z_st1 (tL_law 346) 346 lv st w nx K Rt = (z_li lv 4 (fun x => nx 348 lv (.int x :: st) w)) := id rfl
theorem sL_law_348 (lv : zL) (st : List Value) (w : zW) (nx K : Nat → zL → List Value → zW → Prop) (Rt : Option Value → zW → Prop) : z_st1 (tL_law 348) 348 lv st w nx K Rt = (nx 349 lv (.int (1 : Int32) :: st) w) := id rfl
theorem sL_law_349 (lv : zL) (st : List Value) (w : zW) (nx K : Nat → zL → List Value → zW → Prop) (Rt : Option Value → zW → Prop) : z_st1 (tL_law 349) 349 lv st w nx K Rt = (z_2i st (fun x y r => nx 350 lv (.int (x + y) :: r) w)) := id rfl
theorem sL_law_351 (lv : zL) (st : List Value) (w : zW) (nx K : Nat → zL → List Value → zW → Prop) (Rt : Option Value → zW → Prop) : z_st1 (tL_law 351) 351 lv st w nx K Rt = (z_la lv 0 (fun x => nx 352 lv (.ref x :: st) w)) := id rfl
theorem sL_law_352 (lv : zL) (st : List Value) (w : zW) (nx K : Nat → zL → List Value → zW → Prop) (Rt : Option Value → zW → Prop) : z_st1 (tL_law 352) 352 lv st w nx K Rt = (z_li lv 4 (fun x => nx 354 lv (.int x :: st) w)) := id rfl
theorem sL_law_354 (lv : zL) (st : List Value) (w : zW) (nx K : Nat → zL → List Value → zW → Prop) (Rt : Option Value → zW → Prop) : z_st1 (tL_law 354) 354 lv st w nx K Rt = (nx 355 lv (.int (2 : Int32) :: st) w) := id rfl
theorem sL_law_355 (lv : zL) (st : List Value) (w : zW) (nx K : Nat → zL → List Value → zW → Prop) (Rt : Option Value → zW → Prop) : z_st1 (tL_law 355) 355 lv st w nx K Rt = (z_2i st (fun x y r => nx 356 lv (.int (x + y) :: r) w)) := id rfl
theorem sL_law_357 (lv : zL) (st : List Value) (w : zW) (nx K : Nat → zL → List Value → zW → Prop) (Rt : Option Value → zW → Prop) : z_st1 (tL_law 357) 357 lv st w nx K Rt = (z_la lv 0 (fun x => nx 358 lv (.ref x :: st) w)) := id rfl
theorem sL_law_358 (lv : zL) (st : List Value) (w : zW) (nx K : Nat → zL → List Value → zW → Prop) (Rt : Option Value → zW → Prop) : z_st1 (tL_law 358) 358 lv st w nx K Rt = (z_li lv 4 (fun x => nx 360 lv (.int x :: st) w)) := id rfl
theorem sL_law_360 (lv : zL) (st : List Value) (w : zW) (nx K : Nat → zL → List Value → zW → Prop) (Rt : Option Value → zW → Prop) : z_st1 (tL_law 360) 360 lv st w nx K Rt = (nx 361 lv (.int (3 : Int32) :: st) w) := id rfl
theorem sL_law_361 (lv : zL) (st : List Value) (w : zW) (nx K : Nat → zL → List Value → zW → Prop) (Rt : Option Value → zW → Prop) : z_st1 (tL_law 361) 361 lv st w nx K Rt = (z_2i st (fun x y r => nx 362 lv (.int (x + y) :: r) w)) := id rfl
theorem sL_law_366 (lv : zL) (st : List Value) (w : zW) (nx K : Nat → zL → List Value → zW → Prop) (Rt : Option Value → zW → Prop) : z_st1 (tL_law 366) 366 lv st w nx K Rt = (z_la lv 2 (fun x => nx 367 lv (.ref x :: st) w)) := id rfl
theorem sL_law_367 (lv : zL) (st : List Value) (w : zW) (nx K : Nat → zL → List Value → zW → Prop) (Rt : Option Value → zW → Prop) : z_st1 (tL_law 367) 367 lv st w nx K Rt = (z_la lv 0 (fun x => nx 368 lv (.ref x :: st) w)) := id rfl
theorem sL_law_368 (lv : zL) (st : List Value) (w : zW) (nx K : Nat → zL → List Value → zW → Prop) (Rt : Option Value → zW → Prop) : z_st1 (tL_law 368) 368 lv st w nx K Rt = (z_li lv 4 (fun x => nx 370 lv (.int x :: st) w)) := id rfl
theorem sL_law_370 (lv : zL) (st : List Value) (w : zW) (nx K : Nat → zL → List Value → zW → Prop) (Rt : Option Value → zW → Prop) : z_st1 (tL_law 370) 370 lv st w nx K Rt = (nx 371 lv (.int (1 : Int32) :: st) w) := id rfl
theorem sL_law_371 (lv : zL) (st : List Value) (w : zW) (nx K : Nat → zL → List Value → zW → Prop) (Rt : Option Value → zW → Prop) : z_st1 (tL_law 371) 371 lv st w nx K Rt = (z_2i st (fun x y r => nx 372 lv (.int (x + y) :: r) w)) := id rfl
theorem sL_law_373 (lv : zL) (st : List Value) (w : zW) (nx K : Nat → zL → List Value → zW → Prop) (Rt : Option Value → zW → Prop) : z_st1 (tL_law 373) 373 lv st w nx K Rt = (z_la lv 0 (fun x => nx 374 lv (.ref x :: st) w)) := id rfl
theorem sL_law_374 (lv : zL) (st : List Value) (w : zW) (nx K : Nat → zL → List Value → zW → Prop) (Rt : Option Value → zW → Prop) : z_st1 (tL_law 374) 374 lv st w nx K Rt = (z_li lv 4 (fun x => nx 376 lv (.int x :: st) w)) := id rfl
theorem sL_law_376 (lv : zL) (st : List Value) (w : zW) (nx K : Nat → zL → List Value → zW → Prop) (Rt : Option Value → zW → Prop) : z_st1 (tL_law 376) 376 lv st w nx K Rt = (nx 377 lv (.int (2 : Int32) :: st) w) := id rfl
theorem sL_law_377 (lv : zL) (st : List Value) (w : zW) (nx K : Nat → zL → List Value → zW → Prop) (Rt : Option Value → zW → Prop) : z_st1 (tL_law 377) 377 lv st w nx K Rt = (z_2i st (fun x y r => nx 378 lv (.int (x + y) :: r) w)) := id rfl
theorem sL_law_379 (lv : zL) (st : List Value) (w : zW) (nx K : Nat → zL → List Value → zW → Prop) (Rt : Option Value → zW → Prop) : z_st1 (tL_law 379) 379 lv st w nx K Rt = (z_la lv 0 (fun x => nx 380 lv (.ref x :: st) w)) := id rfl
theorem sL_law_380 (lv : zL) (st : List Value) (w : zW) (nx K : Nat → zL → List Value → zW → Prop) (Rt : Option Value → zW → Prop) : z_st1 (tL_law 380) 380 lv st w nx K Rt = (z_li lv 4 (fun x => nx 382 lv (.int x :: st) w)) := id rfl
theorem sL_law_382 (lv : zL) (st : List Value) (w : zW) (nx K : Nat → zL → List Value → zW → Prop) (Rt : Option Value → zW → Prop) : z_st1 (tL_law 382) 382 lv st w nx K Rt = (nx 383 lv (.int (3 : Int32) :: st) w) := id rfl
theorem sL_law_383 (lv : zL) (st : List Value) (w : zW) (nx K : Nat → zL → List Value → zW → Prop) (Rt : Option Value → zW → Prop) : z_st1 (tL_law 383) 383 lv st w nx K Rt = (z_2i st (fun x y r => nx 384 lv (.int (x + y) :: r) w)) := id rfl
theorem sL_law_388 (lv : zL) (st : List Value) (w : zW) (nx K : Nat → zL → List Value → zW → Prop) (Rt : Option Value → zW → Prop) : z_st1 (tL_law 388) 388 lv st w nx K Rt = (z_2i st (fun x y r => (x = y → nx 783 lv r w) ∧ (¬ x = y → nx 391 lv r w))) := id rfl
theorem sL_law_391 (lv : zL) (st : List Value) (w : zW) (nx K : Nat → zL → List Value → zW → Prop) (Rt : Option Value → zW → Prop) : z_st1 (tL_law 391) 391 lv st w nx K Rt = (nx 392 lv (.int (0 : Int32) :: st) w) := id rfl
theorem sL_law_392 (lv : zL) (st : List Value) (w : zW) (nx K : Nat → zL → List Value → zW → Prop) (Rt : Option Value → zW → Prop) : z_st1 (tL_law 392) 392 lv st w nx K Rt = (z_e1 st (fun x => (x = 0 ∨ x = 1) ∧ Rt (some (.int x)) w)) := id rfl
theorem sL_law_393 (lv : zL) (st : List Value) (w : zW) (nx K : Nat → zL → List Value → zW → Prop) (Rt : Option Value → zW → Prop) : z_st1 (tL_law 393) 393 lv st w nx K Rt = (z_la lv 1 (fun x => nx 394 lv (.ref x :: st) w)) := id rfl
theorem sL_law_394 (lv : zL) (st : List Value) (w : zW) (nx K : Nat → zL → List Value → zW → Prop) (Rt : Option Value → zW → Prop) : z_st1 (tL_law 394) 394 lv st w nx K Rt = (z_la lv 0 (fun x => nx 395 lv (.ref x :: st) w)) := id rfl
theorem sL_law_395 (lv : zL) (st : List Value) (w : zW) (nx K : Nat → zL → List Value → zW → Prop) (Rt : Option Value → zW → Prop) : z_st1 (tL_law 395) 395 lv st w nx K Rt = (z_li lv 4 (fun x => nx 397 lv (.int x :: st) w)) := id rfl
theorem sL_law_397 (lv : zL) (st : List Value) (w : zW) (nx K : Nat → zL → List Value → zW → Prop) (Rt : Option Value → zW → Prop) : z_st1 (tL_law 397) 397 lv st w nx K Rt = (nx 398 lv (.int (1 : Int32) :: st) w) := id rfl
theorem sL_law_398 (lv : zL) (st : List Value) (w : zW) (nx K : Nat → zL → List Value → zW → Prop) (Rt : Option Value → zW → Prop) : z_st1 (tL_law 398) 398 lv st w nx K Rt = (z_2i st (fun x y r => nx 399 lv (.int (x + y) :: r) w)) := id rfl
theorem sL_law_400 (lv : zL) (st : List Value) (w : zW) (nx K : Nat → zL → List Value → zW → Prop) (Rt : Option Value → zW → Prop) : z_st1 (tL_law 400) 400 lv st w nx K Rt = (z_la lv 0 (fun x => nx 401 lv (.ref x :: st) w)) := id rfl
theorem sL_law_401 (lv : zL) (st : List Value) (w : zW) (nx K : Nat → zL → List Value → zW → Prop) (Rt : Option Value → zW → Prop) : z_st1 (tL_law 401) 401 lv st w nx K Rt = (z_li lv 4 (fun x => nx 403 lv (.int x :: st) w)) := id rfl
theorem sL_law_403 (lv : zL) (st : List Value) (w : zW) (nx K : Nat → zL → List Value → zW → Prop) (Rt : Option Value → zW → Prop) : z_st1 (tL_law 403) 403 lv st w nx K Rt = (nx 404 lv (.int (2 : Int32) :: st) w) := id rfl
theorem sL_law_404 (lv : zL) (st : List Value) (w : zW) (nx K : Nat → zL → List Value → zW → Prop) (Rt : Option Value → zW → Prop) : z_st1 (tL_law 404) 404 lv st w nx K Rt = (z_2i st (fun x y r => nx 405 lv (.int (x + y) :: r) w)) := id rfl
theorem sL_law_409 (lv : zL) (st : List Value) (w : zW) (nx K : Nat → zL → List Value → zW → Prop) (Rt : Option Value → zW → Prop) : z_st1 (tL_law 409) 409 lv st w nx K Rt = (z_la lv 2 (fun x => nx 410 lv (.ref x :: st) w)) := id rfl
theorem sL_law_410 (lv : zL) (st : List Value) (w : zW) (nx K : Nat → zL → List Value → zW → Prop) (Rt : Option Value → zW → Prop) : z_st1 (tL_law 410) 410 lv st w nx K Rt = (z_la lv 0 (fun x => nx 411 lv (.ref x :: st) w)) := id rfl
theorem sL_law_411 (lv : zL) (st : List Value) (w : zW) (nx K : Nat → zL → List Value → zW → Prop) (Rt : Option Value → zW → Prop) : z_st1 (tL_law 411) 411 lv st w nx K Rt = (z_li lv 4 (fun x => nx 413 lv (.int x :: st) w)) := id rfl
theorem sL_law_413 (lv : zL) (st : List Value) (w : zW) (nx K : Nat → zL → List Value → zW → Prop) (Rt : Option Value → zW → Prop) : z_st1 (tL_law 413) 413 lv st w nx K Rt = (nx 414 lv (.int (1 : Int32) :: st) w) := id rfl
theorem sL_law_414 (lv : zL) (st : List Value) (w : zW) (nx K : Nat → zL → List Value → zW → Prop) (Rt : Option Value → zW → Prop) : z_st1 (tL_law 414) 414 lv st w nx K Rt = (z_2i st (fun x y r => nx 415 lv (.int (x + y) :: r) w)) := id rfl
theorem sL_law_416 (lv : zL) (st : List Value) (w : zW) (nx K : Nat → zL → List Value → zW → Prop) (Rt : Option Value → zW → Prop) : z_st1 (tL_law 416) 416 lv st w nx K Rt = (z_la lv 0 (fun x => nx 417 lv (.ref x :: st) w)) := id rfl
theorem sL_law_417 (lv : zL) (st : List Value) (w : zW) (nx K : Nat → zL → List Value → zW → Prop) (Rt : Option Value → zW → Prop) : z_st1 (tL_law 417) 417 lv st w nx K Rt = (z_li lv 4 (fun x => nx 419 lv (.int x :: st) w)) := id rfl
theorem sL_law_419 (lv : zL) (st : List Value) (w : zW) (nx K : Nat → zL → List Value → zW → Prop) (Rt : Option Value → zW → Prop) : z_st1 (tL_law 419) 419 lv st w nx K Rt = (nx 420 lv (.int (2 : Int32) :: st) w) := id rfl
theorem sL_law_420 (lv : zL) (st : List Value) (w : zW) (nx K : Nat → zL → List Value → zW → Prop) (Rt : Option Value → zW → Prop) : z_st1 (tL_law 420) 420 lv st w nx K Rt = (z_2i st (fun x y r => nx 421 lv (.int (x + y) :: r) w)) := id rfl
theorem sL_law_425 (lv : zL) (st : List Value) (w : zW) (nx K : Nat → zL → List Value → zW → Prop) (Rt : Option Value → zW → Prop) : z_st1 (tL_law 425) 425 lv st w nx K Rt = (z_2i st (fun x y r => (x = y → nx 783 lv r w) ∧ (¬ x = y → nx 428 lv r w))) := id rfl
theorem sL_law_428 (lv : zL) (st : List Value) (w : zW) (nx K : Nat → zL → List Value → zW → Prop) (Rt : Option Value → zW → Prop) : z_st1 (tL_law 428) 428 lv st w nx K Rt = (nx 429 lv (.int (0 : Int32) :: st) w) := id rfl
theorem sL_law_429 (lv : zL) (st : List Value) (w : zW) (nx K : Nat → zL → List Value → zW → Prop) (Rt : Option Value → zW → Prop) : z_st1 (tL_law 429) 429 lv st w nx K Rt = (z_e1 st (fun x => (x = 0 ∨ x = 1) ∧ Rt (some (.int x)) w)) := id rfl
theorem sL_law_430 (lv : zL) (st : List Value) (w : zW) (nx K : Nat → zL → List Value → zW → Prop) (Rt : Option Value → zW → Prop) : z_st1 (tL_law 430) 430 lv st w nx K Rt = (z_la lv 1 (fun x => nx 431 lv (.ref x :: st) w)) := id rfl
theorem sL_law_431 (lv : zL) (st : List Value) (w : zW) (nx K : Nat → zL → List Value → zW → Prop) (Rt : Option Value → zW → Prop) : z_st1 (tL_law 431) 431 lv st w nx K Rt = (z_la lv 0 (fun x => nx 432 lv (.ref x :: st) w)) := id rfl
theorem sL_law_432 (lv : zL) (st : List Value) (w : zW) (nx K : Nat → zL → List Value → zW → Prop) (Rt : Option Value → zW → Prop) : z_st1 (tL_law 432) 432 lv st w nx K Rt = (z_li lv 4 (fun x => nx 434 lv (.int x :: st) w)) := id rfl
theorem sL_law_434 (lv : zL) (st : List Value) (w : zW) (nx K : Nat → zL → List Value → zW → Prop) (Rt : Option Value → zW → Prop) : z_st1 (tL_law 434) 434 lv st w nx K Rt = (nx 435 lv (.int (1 : Int32) :: st) w) := id rfl
theorem sL_law_435 (lv : zL) (st : List Value) (w : zW) (nx K : Nat → zL → List Value → zW → Prop) (Rt : Option Value → zW → Prop) : z_st1 (tL_law 435) 435 lv st w nx K Rt = (z_2i st (fun x y r => nx 436 lv (.int (x + y) :: r) w)) := id rfl
theorem sL_law_437 (lv : zL) (st : List Value) (w : zW) (nx K : Nat → zL → List Value → zW → Prop) (Rt : Option Value → zW → Prop) : z_st1 (tL_law 437) 437 lv st w nx K Rt = (z_la lv 0 (fun x => nx 438 lv (.ref x :: st) w)) := id rfl
theorem sL_law_438 (lv : zL) (st : List Value) (w : zW) (nx K : Nat → zL → List Value → zW → Prop) (Rt : Option Value → zW → Prop) : z_st1 (tL_law 438) 438 lv st w nx K Rt = (z_li lv 4 (fun x => nx 440 lv (.int x :: st) w)) := id rfl
theorem sL_law_440 (lv : zL) (st : List Value) (w : zW) (nx K : Nat → zL → List Value → zW → Prop) (Rt : Option Value → zW → Prop) : z_st1 (tL_law 440) 440 lv st w nx K Rt = (nx 441 lv (.int (2 : Int32) :: st) w) := id rfl
theorem sL_law_441 (lv : zL) (st : List Value) (w : zW) (nx K : Nat → zL → List Value → zW → Prop) (Rt : Option Value → zW → Prop) : z_st1 (tL_law 441) 441 lv st w nx K Rt = (z_2i st (fun x y r => nx 442 lv (.int (x + y) :: r) w)) := id rfl
theorem sL_law_443 (lv : zL) (st : List Value) (w : zW) (nx K : Nat → zL → List Value → zW → Prop) (Rt : Option Value → zW → Prop) : z_st1 (tL_law 443) 443 lv st w nx K Rt = (z_la lv 0 (fun x => nx 444 lv (.ref x :: st) w)) := id rfl
theorem sL_law_444 (lv : zL) (st : List Value) (w : zW) (nx K : Nat → zL → List Value → zW → Prop) (Rt : Option Value → zW → Prop) : z_st1 (tL_law 444) 444 lv st w nx K Rt = (z_li lv 4 (fun x => nx 446 lv (.int x :: st) w)) := id rfl
theorem sL_law_446 (lv : zL) (st : List Value) (w : zW) (nx K : Nat → zL → List Value → zW → Prop) (Rt : Option Value → zW → Prop) : z_st1 (tL_law 446) 446 lv st w nx K Rt = (nx 447 lv (.int (3 : Int32) :: st) w) := id rfl
theorem sL_law_447 (lv : zL) (st : List Value) (w : zW) (nx K : Nat → zL → List Value → zW → Prop) (Rt : Option Value → zW → Prop) : z_st1 (tL_law 447) 447 lv st w nx K Rt = (z_2i st (fun x y r => nx 448 lv (.int (x + y) :: r) w)) := id rfl
theorem sL_law_452 (lv : zL) (st : List Value) (w : zW) (nx K : Nat → zL → List Value → zW → Prop) (Rt : Option Value → zW → Prop) : z_st1 (tL_law 452) 452 lv st w nx K Rt = (z_la lv 2 (fun x => nx 453 lv (.ref x :: st) w)) := id rfl
theorem sL_law_453 (lv : zL) (st : List Value) (w : zW) (nx K : Nat → zL → List Value → zW → Prop) (Rt : Option Value → zW → Prop) : z_st1 (tL_law 453) 453 lv st w nx K Rt = (z_la lv 0 (fun x => nx 454 lv (.ref x :: st) w)) := id rfl
theorem sL_law_454 (lv : zL) (st : List Value) (w : zW) (nx K : Nat → zL → List Value → zW → Prop) (Rt : Option Value → zW → Prop) : z_st1 (tL_law 454) 454 lv st w nx K Rt = (z_li lv 4 (fun x => nx 456 lv (.int x :: st) w)) := id rfl
theorem sL_law_456 (lv : zL) (st : List Value) (w : zW) (nx K : Nat → zL → List Value → zW → Prop) (Rt : Option Value → zW → Prop) : z_st1 (tL_law 456) 456 lv st w nx K Rt = (nx 457 lv (.int (1 : Int32) :: st) w) := id rfl
theorem sL_law_457 (lv : zL) (st : List Value) (w : zW) (nx K : Nat → zL → List Value → zW → Prop) (Rt : Option Value → zW → Prop) : z_st1 (tL_law 457) 457 lv st w nx K Rt = (z_2i st (fun x y r => nx 458 lv (.int (x + y) :: r) w)) := id rfl
theorem sL_law_459 (lv : zL) (st : List Value) (w : zW) (nx K : Nat → zL → List Value → zW → Prop) (Rt : Option Value → zW → Prop) : z_st1 (tL_law 459) 459 lv st w nx K Rt = (z_la lv 0 (fun x => nx 460 lv (.ref x :: st) w)) := id rfl
theorem sL_law_460 (lv : zL) (st : List Value) (w : zW) (nx K : Nat → zL → List Value → zW → Prop) (Rt : Option Value → zW → Prop) : z_st1 (tL_law 460) 460 lv st w nx K Rt = (z_li lv 4 (fun x => nx 462 lv (.int x :: st) w)) := id rfl
theorem sL_law_462 (lv : zL) (st : List Value) (w : zW) (nx K : Nat → zL → List Value → zW → Prop) (Rt : Option Value → zW → Prop) : z_st1 (tL_law 462) 462 lv st w nx K Rt = (nx 463 lv (.int (2 : Int32) :: st) w) := id rfl
theorem sL_law_463 (lv : zL) (st : List Value) (w : zW) (nx K : Nat → zL → List Value → zW → Prop) (Rt : Option Value → zW → Prop) : z_st1 (tL_law 463) 463 lv st w nx K Rt = (z_2i st (fun x y r => nx 464 lv (.int (x + y) :: r) w)) := id rfl
theorem sL_law_465 (lv : zL) (st : List Value) (w : zW) (nx K : Nat → zL → List Value → zW → Prop) (Rt : Option Value → zW → Prop) : z_st1 (tL_law 465) 465 lv st w nx K Rt = (z_la lv 0 (fun x => nx 466 lv (.ref x :: st) w)) := id rfl
theorem sL_law_466 (lv : zL) (st : List Value) (w : zW) (nx K : Nat → zL → List Value → zW → Prop) (Rt : Option Value → zW → Prop) : z_st1 (tL_law 466) 466 lv st w nx K Rt = (z_li lv 4 (fun x => nx 468 lv (.int x :: st) w)) := id rfl
theorem sL_law_468 (lv : zL) (st : List Value) (w : zW) (nx K : Nat → zL → List Value → zW → Prop) (Rt : Option Value → zW → Prop) : z_st1 (tL_law 468) 468 lv st w nx K Rt = (nx 469 lv (.int (3 : Int32) :: st) w) := id rfl
theorem sL_law_469 (lv : zL) (st : List Value) (w : zW) (nx K : Nat → zL → List Value → zW → Prop) (Rt : Option Value → zW → Prop) : z_st1 (tL_law 469) 469 lv st w nx K Rt = (z_2i st (fun x y r => nx 470 lv (.int (x + y) :: r) w)) := id rfl
theorem sL_law_474 (lv : zL) (st : List Value) (w : zW) (nx K : Nat → zL → List Value → zW → Prop) (Rt : Option Value → zW → Prop) : z_st1 (tL_law 474) 474 lv st w nx K Rt = (z_2i st (fun x y r => (x = y → nx 783 lv r w) ∧ (¬ x = y → nx 477 lv r w))) := id rfl
theorem sL_law_477 (lv : zL) (st : List Value) (w : zW) (nx K : Nat → zL → List Value → zW → Prop) (Rt : Option Value → zW → Prop) : z_st1 (tL_law 477) 477 lv st w nx K Rt = (nx 478 lv (.int (0 : Int32) :: st) w) := id rfl
theorem sL_law_478 (lv : zL) (st : List Value) (w : zW) (nx K : Nat → zL → List Value → zW → Prop) (Rt : Option Value → zW → Prop) : z_st1 (tL_law 478) 478 lv st w nx K Rt = (z_e1 st (fun x => (x = 0 ∨ x = 1) ∧ Rt (some (.int x)) w)) := id rfl
theorem sL_law_479 (lv : zL) (st : List Value) (w : zW) (nx K : Nat → zL → List Value → zW → Prop) (Rt : Option Value → zW → Prop) : z_st1 (tL_law 479) 479 lv st w nx K Rt = (z_la lv 1 (fun x => nx 480 lv (.ref x :: st) w)) := id rfl
theorem sL_law_483 (lv : zL) (st : List Value) (w : zW) (nx K : Nat → zL → List Value → zW → Prop) (Rt : Option Value → zW → Prop) : z_st1 (tL_law 483) 483 lv st w nx K Rt = (z_la lv 2 (fun x => nx 484 lv (.ref x :: st) w)) := id rfl
theorem sL_law_487 (lv : zL) (st : List Value) (w : zW) (nx K : Nat → zL → List Value → zW → Prop) (Rt : Option Value → zW → Prop) : z_st1 (tL_law 487) 487 lv st w nx K Rt = (z_2i st (fun x y r => (x = y → nx 783 lv r w) ∧ (¬ x = y → nx 490 lv r w))) := id rfl
theorem sL_law_490 (lv : zL) (st : List Value) (w : zW) (nx K : Nat → zL → List Value → zW → Prop) (Rt : Option Value → zW → Prop) : z_st1 (tL_law 490) 490 lv st w nx K Rt = (nx 491 lv (.int (0 : Int32) :: st) w) := id rfl
theorem sL_law_491 (lv : zL) (st : List Value) (w : zW) (nx K : Nat → zL → List Value → zW → Prop) (Rt : Option Value → zW → Prop) : z_st1 (tL_law 491) 491 lv st w nx K Rt = (z_e1 st (fun x => (x = 0 ∨ x = 1) ∧ Rt (some (.int x)) w)) := id rfl
theorem sL_law_492 (lv : zL) (st : List Value) (w : zW) (nx K : Nat → zL → List Value → zW → Prop) (Rt : Option Value → zW → Prop) : z_st1 (tL_law 492) 492 lv st w nx K Rt = (z_la lv 1 (fun x => nx 493 lv (.ref x :: st) w)) := id rfl
theorem sL_law_493 (lv : zL) (st : List Value) (w : zW) (nx K : Nat → zL → List Value → zW → Prop) (Rt : Option Value → zW → Prop) : z_st1 (tL_law 493) 493 lv st w nx K Rt = (z_la lv 0 (fun x => nx 494 lv (.ref x :: st) w)) := id rfl
theorem sL_law_494 (lv : zL) (st : List Value) (w : zW) (nx K : Nat → zL → List Value → zW → Prop) (Rt : Option Value → zW → Prop) : z_st1 (tL_law 494) 494 lv st w nx K Rt = (z_li lv 4 (fun x => nx 496 lv (.int x :: st) w)) := id rfl
theorem sL_law_496 (lv : zL) (st : List Value) (w : zW) (nx K : Nat → zL → List Value → zW → Prop) (Rt : Option Value → zW → Prop) : z_st1 (tL_law 496) 496 lv st w nx K Rt = (nx 497 lv (.int (1 : Int32) :: st) w) := id rfl
theorem sL_law_497 (lv : zL) (st : List Value) (w : zW) (nx K : Nat → zL → List Value → zW → Prop) (Rt : Option Value → zW → Prop) : z_st1 (tL_law 497) 497 lv st w nx K Rt = (z_2i st (fun x y r => nx 498 lv (.int (x + y) :: r) w)) := id rfl
theorem sL_law_502 (lv : zL) (st : List Value) (w : zW) (nx K : Nat → zL → List Value → zW → Prop) (Rt : Option Value → zW → Prop) : z_st1 (tL_law 502) 502 lv st w nx K Rt = (z_la lv 2 (fun x => nx 503 lv (.ref x :: st) w)) := id rfl
theorem sL_law_503 (lv : zL) (st : List Value) (w : zW) (nx K : Nat → zL → List Value → zW → Prop) (Rt : Option Value → zW → Prop) : z_st1 (tL_law 503) 503 lv st w nx K Rt = (z_la lv 0 (fun x => nx 504 lv (.ref x :: st) w)) := id rfl
theorem sL_law_504 (lv : zL) (st : List Value) (w : zW) (nx K : Nat → zL → List Value → zW → Prop) (Rt : Option Value → zW → Prop) : z_st1 (tL_law 504) 504 lv st w nx K Rt = (z_li lv 4 (fun x => nx 506 lv (.int x :: st) w)) := id rfl
theorem sL_law_506 (lv : zL) (st : List Value) (w : zW) (nx K : Nat → zL → List Value → zW → Prop) (Rt : Option Value → zW → Prop) : z_st1 (tL_law 506) 506 lv st w nx K Rt = (nx 507 lv (.int (1 : Int32) :: st) w) := id rfl
theorem sL_law_507 (lv : zL) (st : List Value) (w : zW) (nx K : Nat → zL → List Value → zW → Prop) (Rt : Option Value → zW → Prop) : z_st1 (tL_law 507) 507 lv st w nx K Rt = (z_2i st (fun x y r => nx 508 lv (.int (x + y) :: r) w)) := id rfl
theorem sL_law_512 (lv : zL) (st : List Value) (w : zW) (nx K : Nat → zL → List Value → zW → Prop) (Rt : Option Value → zW → Prop) : z_st1 (tL_law 512) 512 lv st w nx K Rt = (z_2i st (fun x y r => (x = y → nx 783 lv r w) ∧ (¬ x = y → nx 515 lv r w))) := id rfl
theorem sL_law_515 (lv : zL) (st : List Value) (w : zW) (nx K : Nat → zL → List Value → zW → Prop) (Rt : Option Value → zW → Prop) : z_st1 (tL_law 515) 515 lv st w nx K Rt = (nx 516 lv (.int (0 : Int32) :: st) w) := id rfl
theorem sL_law_516 (lv : zL) (st : List Value) (w : zW) (nx K : Nat → zL → List Value → zW → Prop) (Rt : Option Value → zW → Prop) : z_st1 (tL_law 516) 516 lv st w nx K Rt = (z_e1 st (fun x => (x = 0 ∨ x = 1) ∧ Rt (some (.int x)) w)) := id rfl
theorem sL_law_517 (lv : zL) (st : List Value) (w : zW) (nx K : Nat → zL → List Value → zW → Prop) (Rt : Option Value → zW → Prop) : z_st1 (tL_law 517) 517 lv st w nx K Rt = (z_la lv 1 (fun x => nx 518 lv (.ref x :: st) w)) := id rfl
theorem sL_law_518 (lv : zL) (st : List Value) (w : zW) (nx K : Nat → zL → List Value → zW → Prop) (Rt : Option Value → zW → Prop) : z_st1 (tL_law 518) 518 lv st w nx K Rt = (z_la lv 0 (fun x => nx 519 lv (.ref x :: st) w)) := id rfl
theorem sL_law_519 (lv : zL) (st : List Value) (w : zW) (nx K : Nat → zL → List Value → zW → Prop) (Rt : Option Value → zW → Prop) : z_st1 (tL_law 519) 519 lv st w nx K Rt = (z_li lv 4 (fun x => nx 521 lv (.int x :: st) w)) := id rfl
theorem sL_law_521 (lv : zL) (st : List Value) (w : zW) (nx K : Nat → zL → List Value → zW → Prop) (Rt : Option Value → zW → Prop) : z_st1 (tL_law 521) 521 lv st w nx K Rt = (nx 522 lv (.int (1 : Int32) :: st) w) := id rfl
theorem sL_law_522 (lv : zL) (st : List Value) (w : zW) (nx K : Nat → zL → List Value → zW → Prop) (Rt : Option Value → zW → Prop) : z_st1 (tL_law 522) 522 lv st w nx K Rt = (z_2i st (fun x y r => nx 523 lv (.int (x + y) :: r) w)) := id rfl
theorem sL_law_524 (lv : zL) (st : List Value) (w : zW) (nx K : Nat → zL → List Value → zW → Prop) (Rt : Option Value → zW → Prop) : z_st1 (tL_law 524) 524 lv st w nx K Rt = (z_1i st (fun x r => (x = 0 → nx 531 lv r w) ∧ (¬ x = 0 → nx 527 lv r w))) := id rfl
theorem sL_law_527 (lv : zL) (st : List Value) (w : zW) (nx K : Nat → zL → List Value → zW → Prop) (Rt : Option Value → zW → Prop) : z_st1 (tL_law 527) 527 lv st w nx K Rt = (nx 528 lv (.int (1 : Int32) :: st) w) := id rfl
theorem sL_law_528 (lv : zL) (st : List Value) (w : zW) (nx K : Nat → zL → List Value → zW → Prop) (Rt : Option Value → zW → Prop) : z_st1 (tL_law 528) 528 lv st w nx K Rt = (nx 532 lv st w) := id rfl
theorem sL_law_531 (lv : zL) (st : List Value) (w : zW) (nx K : Nat → zL → List Value → zW → Prop) (Rt : Option Value → zW → Prop) : z_st1 (tL_law 531) 531 lv st w nx K Rt = (nx 532 lv (.int (0 : Int32) :: st) w) := id rfl
theorem sL_law_532 (lv : zL) (st : List Value) (w : zW) (nx K : Nat → zL → List Value → zW → Prop) (Rt : Option Value → zW → Prop) : z_st1 (tL_law 532) 532 lv st w nx K Rt = (z_la lv 3 (fun x => nx 533 lv (.ref x :: st) w)) := id rfl
theorem sL_law_536 (lv : zL) (st : List Value) (w : zW) (nx K : Nat → zL → List Value → zW → Prop) (Rt : Option Value → zW → Prop) : z_st1 (tL_law 536) 536 lv st w nx K Rt = (z_1i st (fun x r => z_ok1 lv 5 = true ∧ nx 538 (lv.set 5 (some (.int x))) r w)) := id rfl
theorem sL_law_538 (lv : zL) (st : List Value) (w : zW) (nx K : Nat → zL → List Value → zW → Prop) (Rt : Option Value → zW → Prop) : z_st1 (tL_law 538) 538 lv st w nx K Rt = (z_la lv 2 (fun x => nx 539 lv (.ref x :: st) w)) := id rfl
theorem sL_law_539 (lv : zL) (st : List Value) (w : zW) (nx K : Nat → zL → List Value → zW → Prop) (Rt : Option Value → zW → Prop) : z_st1 (tL_law 539) 539 lv st w nx K Rt = (z_la lv 0 (fun x => nx 540 lv (.ref x :: st) w)) := id rfl
theorem sL_law_540 (lv : zL) (st : List Value) (w : zW) (nx K : Nat → zL → List Value → zW → Prop) (Rt : Option Value → zW → Prop) : z_st1 (tL_law 540) 540 lv st w nx K Rt = (z_li lv 4 (fun x => nx 542 lv (.int x :: st) w)) := id rfl
theorem sL_law_542 (lv : zL) (st : List Value) (w : zW) (nx K : Nat → zL → List Value → zW → Prop) (Rt : Option Value → zW → Prop) : z_st1 (tL_law 542) 542 lv st w nx K Rt = (nx 543 lv (.int (1 : Int32) :: st) w) := id rfl
theorem sL_law_543 (lv : zL) (st : List Value) (w : zW) (nx K : Nat → zL → List Value → zW → Prop) (Rt : Option Value → zW → Prop) : z_st1 (tL_law 543) 543 lv st w nx K Rt = (z_2i st (fun x y r => nx 544 lv (.int (x + y) :: r) w)) := id rfl
theorem sL_law_545 (lv : zL) (st : List Value) (w : zW) (nx K : Nat → zL → List Value → zW → Prop) (Rt : Option Value → zW → Prop) : z_st1 (tL_law 545) 545 lv st w nx K Rt = (z_1i st (fun x r => (x = 0 → nx 552 lv r w) ∧ (¬ x = 0 → nx 548 lv r w))) := id rfl
theorem sL_law_548 (lv : zL) (st : List Value) (w : zW) (nx K : Nat → zL → List Value → zW → Prop) (Rt : Option Value → zW → Prop) : z_st1 (tL_law 548) 548 lv st w nx K Rt = (nx 549 lv (.int (1 : Int32) :: st) w) := id rfl
theorem sL_law_549 (lv : zL) (st : List Value) (w : zW) (nx K : Nat → zL → List Value → zW → Prop) (Rt : Option Value → zW → Prop) : z_st1 (tL_law 549) 549 lv st w nx K Rt = (nx 553 lv st w) := id rfl
theorem sL_law_552 (lv : zL) (st : List Value) (w : zW) (nx K : Nat → zL → List Value → zW → Prop) (Rt : Option Value → zW → Prop) : z_st1 (tL_law 552) 552 lv st w nx K Rt = (nx 553 lv (.int (0 : Int32) :: st) w) := id rfl
theorem sL_law_556 (lv : zL) (st : List Value) (w : zW) (nx K : Nat → zL → List Value → zW → Prop) (Rt : Option Value → zW → Prop) : z_st1 (tL_law 556) 556 lv st w nx K Rt = (z_1i st (fun x r => z_ok1 lv 6 = true ∧ nx 558 (lv.set 6 (some (.int x))) r w)) := id rfl
theorem sL_law_558 (lv : zL) (st : List Value) (w : zW) (nx K : Nat → zL → List Value → zW → Prop) (Rt : Option Value → zW → Prop) : z_st1 (tL_law 558) 558 lv st w nx K Rt = (z_la lv 2 (fun x => nx 559 lv (.ref x :: st) w)) := id rfl
theorem sL_law_562 (lv : zL) (st : List Value) (w : zW) (nx K : Nat → zL → List Value → zW → Prop) (Rt : Option Value → zW → Prop) : z_st1 (tL_law 562) 562 lv st w nx K Rt = (z_li lv 5 (fun x => nx 564 lv (.int x :: st) w)) := id rfl
theorem sL_law_564 (lv : zL) (st : List Value) (w : zW) (nx K : Nat → zL → List Value → zW → Prop) (Rt : Option Value → zW → Prop) : z_st1 (tL_law 564) 564 lv st w nx K Rt = (z_2i st (fun x y r => (x = y → nx 569 lv r w) ∧ (¬ x = y → nx 567 lv r w))) := id rfl
theorem sL_law_567 (lv : zL) (st : List Value) (w : zW) (nx K : Nat → zL → List Value → zW → Prop) (Rt : Option Value → zW → Prop) : z_st1 (tL_law 567) 567 lv st w nx K Rt = (nx 568 lv (.int (0 : Int32) :: st) w) := id rfl
theorem sL_law_568 (lv : zL) (st : List Value) (w : zW) (nx K : Nat → zL → List Value → zW → Prop) (Rt : Option Value → zW → Prop) : z_st1 (tL_law 568) 568 lv st w nx K Rt = (z_e1 st (fun x => (x = 0 ∨ x = 1) ∧ Rt (some (.int x)) w)) := id rfl
theorem sL_law_569 (lv : zL) (st : List Value) (w : zW) (nx K : Nat → zL → List Value → zW → Prop) (Rt : Option Value → zW → Prop) : z_st1 (tL_law 569) 569 lv st w nx K Rt = (z_li lv 5 (fun x => nx 571 lv (.int x :: st) w)) := id rfl
theorem sL_law_571 (lv : zL) (st : List Value) (w : zW) (nx K : Nat → zL → List Value → zW → Prop) (Rt : Option Value → zW → Prop) : z_st1 (tL_law 571) 571 lv st w nx K Rt = (z_1i st (fun x r => (¬ x = 0 → nx 586 lv r w) ∧ (x = 0 → nx 574 lv r w))) := id rfl
theorem sL_law_574 (lv : zL) (st : List Value) (w : zW) (nx K : Nat → zL → List Value → zW → Prop) (Rt : Option Value → zW → Prop) : z_st1 (tL_law 574) 574 lv st w nx K Rt = (z_la lv 3 (fun x => nx 575 lv (.ref x :: st) w)) := id rfl
theorem sL_law_575 (lv : zL) (st : List Value) (w : zW) (nx K : Nat → zL → List Value → zW → Prop) (Rt : Option Value → zW → Prop) : z_st1 (tL_law 575) 575 lv st w nx K Rt = (nx 576 lv (.int (0 : Int32) :: st) w) := id rfl
theorem sL_law_576 (lv : zL) (st : List Value) (w : zW) (nx K : Nat → zL → List Value → zW → Prop) (Rt : Option Value → zW → Prop) : z_st1 (tL_law 576) 576 lv st w nx K Rt = (z_ia st (fun x i r => z_ar2 w x (fun m g => vp_in i m ∧ nx 577 lv (.long (g i.toNatClampNeg) :: r) w))) := id rfl
theorem sL_law_577 (lv : zL) (st : List Value) (w : zW) (nx K : Nat → zL → List Value → zW → Prop) (Rt : Option Value → zW → Prop) : z_st1 (tL_law 577) 577 lv st w nx K Rt = (z_li lv 6 (fun x => nx 579 lv (.int x :: st) w)) := id rfl
theorem sL_law_579 (lv : zL) (st : List Value) (w : zW) (nx K : Nat → zL → List Value → zW → Prop) (Rt : Option Value → zW → Prop) : z_st1 (tL_law 579) 579 lv st w nx K Rt = (z_1i st (fun x r => nx 580 lv (.long x.toInt64 :: r) w)) := id rfl
theorem sL_law_580 (lv : zL) (st : List Value) (w : zW) (nx K : Nat → zL → List Value → zW → Prop) (Rt : Option Value → zW → Prop) : z_st1 (tL_law 580) 580 lv st w nx K Rt = (z_2l st (fun x y r => nx 581 lv (.int (lg_cmp x y) :: r) w)) := id rfl
theorem sL_law_581 (lv : zL) (st : List Value) (w : zW) (nx K : Nat → zL → List Value → zW → Prop) (Rt : Option Value → zW → Prop) : z_st1 (tL_law 581) 581 lv st w nx K Rt = (z_1i st (fun x r => (x = 0 → nx 586 lv r w) ∧ (¬ x = 0 → nx 584 lv r w))) := id rfl
theorem sL_law_584 (lv : zL) (st : List Value) (w : zW) (nx K : Nat → zL → List Value → zW → Prop) (Rt : Option Value → zW → Prop) : z_st1 (tL_law 584) 584 lv st w nx K Rt = (nx 585 lv (.int (0 : Int32) :: st) w) := id rfl
theorem sL_law_585 (lv : zL) (st : List Value) (w : zW) (nx K : Nat → zL → List Value → zW → Prop) (Rt : Option Value → zW → Prop) : z_st1 (tL_law 585) 585 lv st w nx K Rt = (z_e1 st (fun x => (x = 0 ∨ x = 1) ∧ Rt (some (.int x)) w)) := id rfl
theorem sL_law_586 (lv : zL) (st : List Value) (w : zW) (nx K : Nat → zL → List Value → zW → Prop) (Rt : Option Value → zW → Prop) : z_st1 (tL_law 586) 586 lv st w nx K Rt = (nx 783 lv st w) := id rfl
theorem sL_law_589 (lv : zL) (st : List Value) (w : zW) (nx K : Nat → zL → List Value → zW → Prop) (Rt : Option Value → zW → Prop) : z_st1 (tL_law 589) 589 lv st w nx K Rt = (z_la lv 1 (fun x => nx 590 lv (.ref x :: st) w)) := id rfl
theorem sL_law_593 (lv : zL) (st : List Value) (w : zW) (nx K : Nat → zL → List Value → zW → Prop) (Rt : Option Value → zW → Prop) : z_st1 (tL_law 593) 593 lv st w nx K Rt = (z_la lv 2 (fun x => nx 594 lv (.ref x :: st) w)) := id rfl
theorem sL_law_597 (lv : zL) (st : List Value) (w : zW) (nx K : Nat → zL → List Value → zW → Prop) (Rt : Option Value → zW → Prop) : z_st1 (tL_law 597) 597 lv st w nx K Rt = (z_2i st (fun x y r => (x = y → nx 783 lv r w) ∧ (¬ x = y → nx 600 lv r w))) := id rfl
theorem sL_law_600 (lv : zL) (st : List Value) (w : zW) (nx K : Nat → zL → List Value → zW → Prop) (Rt : Option Value → zW → Prop) : z_st1 (tL_law 600) 600 lv st w nx K Rt = (nx 601 lv (.int (0 : Int32) :: st) w) := id rfl
theorem sL_law_601 (lv : zL) (st : List Value) (w : zW) (nx K : Nat → zL → List Value → zW → Prop) (Rt : Option Value → zW → Prop) : z_st1 (tL_law 601) 601 lv st w nx K Rt = (z_e1 st (fun x => (x = 0 ∨ x = 1) ∧ Rt (some (.int x)) w)) := id rfl
theorem sL_law_602 (lv : zL) (st : List Value) (w : zW) (nx K : Nat → zL → List Value → zW → Prop) (Rt : Option Value → zW → Prop) : z_st1 (tL_law 602) 602 lv st w nx K Rt = (z_la lv 1 (fun x => nx 603 lv (.ref x :: st) w)) := id rfl
theorem sL_law_603 (lv : zL) (st : List Value) (w : zW) (nx K : Nat → zL → List Value → zW → Prop) (Rt : Option Value → zW → Prop) : z_st1 (tL_law 603) 603 lv st w nx K Rt = (z_la lv 0 (fun x => nx 604 lv (.ref x :: st) w)) := id rfl
theorem sL_law_604 (lv : zL) (st : List Value) (w : zW) (nx K : Nat → zL → List Value → zW → Prop) (Rt : Option Value → zW → Prop) : z_st1 (tL_law 604) 604 lv st w nx K Rt = (z_li lv 4 (fun x => nx 606 lv (.int x :: st) w)) := id rfl
theorem sL_law_606 (lv : zL) (st : List Value) (w : zW) (nx K : Nat → zL → List Value → zW → Prop) (Rt : Option Value → zW → Prop) : z_st1 (tL_law 606) 606 lv st w nx K Rt = (nx 607 lv (.int (1 : Int32) :: st) w) := id rfl
theorem sL_law_607 (lv : zL) (st : List Value) (w : zW) (nx K : Nat → zL → List Value → zW → Prop) (Rt : Option Value → zW → Prop) : z_st1 (tL_law 607) 607 lv st w nx K Rt = (z_2i st (fun x y r => nx 608 lv (.int (x + y) :: r) w)) := id rfl
theorem sL_law_612 (lv : zL) (st : List Value) (w : zW) (nx K : Nat → zL → List Value → zW → Prop) (Rt : Option Value → zW → Prop) : z_st1 (tL_law 612) 612 lv st w nx K Rt = (z_la lv 2 (fun x => nx 613 lv (.ref x :: st) w)) := id rfl
theorem sL_law_613 (lv : zL) (st : List Value) (w : zW) (nx K : Nat → zL → List Value → zW → Prop) (Rt : Option Value → zW → Prop) : z_st1 (tL_law 613) 613 lv st w nx K Rt = (z_la lv 0 (fun x => nx 614 lv (.ref x :: st) w)) := id rfl
theorem sL_law_614 (lv : zL) (st : List Value) (w : zW) (nx K : Nat → zL → List Value → zW → Prop) (Rt : Option Value → zW → Prop) : z_st1 (tL_law 614) 614 lv st w nx K Rt = (z_li lv 4 (fun x => nx 616 lv (.int x :: st) w)) := id rfl
theorem sL_law_616 (lv : zL) (st : List Value) (w : zW) (nx K : Nat → zL → List Value → zW → Prop) (Rt : Option Value → zW → Prop) : z_st1 (tL_law 616) 616 lv st w nx K Rt = (nx 617 lv (.int (1 : Int32) :: st) w) := id rfl
theorem sL_law_617 (lv : zL) (st : List Value) (w : zW) (nx K : Nat → zL → List Value → zW → Prop) (Rt : Option Value → zW → Prop) : z_st1 (tL_law 617) 617 lv st w nx K Rt = (z_2i st (fun x y r => nx 618 lv (.int (x + y) :: r) w)) := id rfl
theorem sL_law_622 (lv : zL) (st : List Value) (w : zW) (nx K : Nat → zL → List Value → zW → Prop) (Rt : Option Value → zW → Prop) : z_st1 (tL_law 622) 622 lv st w nx K Rt = (z_2i st (fun x y r => (x = y → nx 783 lv r w) ∧ (¬ x = y → nx 625 lv r w))) := id rfl
theorem sL_law_625 (lv : zL) (st : List Value) (w : zW) (nx K : Nat → zL → List Value → zW → Prop) (Rt : Option Value → zW → Prop) : z_st1 (tL_law 625) 625 lv st w nx K Rt = (nx 626 lv (.int (0 : Int32) :: st) w) := id rfl
theorem sL_law_626 (lv : zL) (st : List Value) (w : zW) (nx K : Nat → zL → List Value → zW → Prop) (Rt : Option Value → zW → Prop) : z_st1 (tL_law 626) 626 lv st w nx K Rt = (z_e1 st (fun x => (x = 0 ∨ x = 1) ∧ Rt (some (.int x)) w)) := id rfl
theorem sL_law_627 (lv : zL) (st : List Value) (w : zW) (nx K : Nat → zL → List Value → zW → Prop) (Rt : Option Value → zW → Prop) : z_st1 (tL_law 627) 627 lv st w nx K Rt = (z_la lv 1 (fun x => nx 628 lv (.ref x :: st) w)) := id rfl
theorem sL_law_628 (lv : zL) (st : List Value) (w : zW) (nx K : Nat → zL → List Value → zW → Prop) (Rt : Option Value → zW → Prop) : z_st1 (tL_law 628) 628 lv st w nx K Rt = (z_la lv 0 (fun x => nx 629 lv (.ref x :: st) w)) := id rfl
theorem sL_law_629 (lv : zL) (st : List Value) (w : zW) (nx K : Nat → zL → List Value → zW → Prop) (Rt : Option Value → zW → Prop) : z_st1 (tL_law 629) 629 lv st w nx K Rt = (z_li lv 4 (fun x => nx 631 lv (.int x :: st) w)) := id rfl
theorem sL_law_631 (lv : zL) (st : List Value) (w : zW) (nx K : Nat → zL → List Value → zW → Prop) (Rt : Option Value → zW → Prop) : z_st1 (tL_law 631) 631 lv st w nx K Rt = (nx 632 lv (.int (1 : Int32) :: st) w) := id rfl
theorem sL_law_632 (lv : zL) (st : List Value) (w : zW) (nx K : Nat → zL → List Value → zW → Prop) (Rt : Option Value → zW → Prop) : z_st1 (tL_law 632) 632 lv st w nx K Rt = (z_2i st (fun x y r => nx 633 lv (.int (x + y) :: r) w)) := id rfl
theorem sL_law_634 (lv : zL) (st : List Value) (w : zW) (nx K : Nat → zL → List Value → zW → Prop) (Rt : Option Value → zW → Prop) : z_st1 (tL_law 634) 634 lv st w nx K Rt = (z_la lv 0 (fun x => nx 635 lv (.ref x :: st) w)) := id rfl
theorem sL_law_635 (lv : zL) (st : List Value) (w : zW) (nx K : Nat → zL → List Value → zW → Prop) (Rt : Option Value → zW → Prop) : z_st1 (tL_law 635) 635 lv st w nx K Rt = (z_li lv 4 (fun x => nx 637 lv (.int x :: st) w)) := id rfl
theorem sL_law_637 (lv : zL) (st : List Value) (w : zW) (nx K : Nat → zL → List Value → zW → Prop) (Rt : Option Value → zW → Prop) : z_st1 (tL_law 637) 637 lv st w nx K Rt = (nx 638 lv (.int (2 : Int32) :: st) w) := id rfl
theorem sL_law_638 (lv : zL) (st : List Value) (w : zW) (nx K : Nat → zL → List Value → zW → Prop) (Rt : Option Value → zW → Prop) : z_st1 (tL_law 638) 638 lv st w nx K Rt = (z_2i st (fun x y r => nx 639 lv (.int (x + y) :: r) w)) := id rfl
theorem sL_law_643 (lv : zL) (st : List Value) (w : zW) (nx K : Nat → zL → List Value → zW → Prop) (Rt : Option Value → zW → Prop) : z_st1 (tL_law 643) 643 lv st w nx K Rt = (z_la lv 2 (fun x => nx 644 lv (.ref x :: st) w)) := id rfl
theorem sL_law_644 (lv : zL) (st : List Value) (w : zW) (nx K : Nat → zL → List Value → zW → Prop) (Rt : Option Value → zW → Prop) : z_st1 (tL_law 644) 644 lv st w nx K Rt = (z_la lv 0 (fun x => nx 645 lv (.ref x :: st) w)) := id rfl
theorem sL_law_645 (lv : zL) (st : List Value) (w : zW) (nx K : Nat → zL → List Value → zW → Prop) (Rt : Option Value → zW → Prop) : z_st1 (tL_law 645) 645 lv st w nx K Rt = (z_li lv 4 (fun x => nx 647 lv (.int x :: st) w)) := id rfl
theorem sL_law_647 (lv : zL) (st : List Value) (w : zW) (nx K : Nat → zL → List Value → zW → Prop) (Rt : Option Value → zW → Prop) : z_st1 (tL_law 647) 647 lv st w nx K Rt = (nx 648 lv (.int (1 : Int32) :: st) w) := id rfl
theorem sL_law_648 (lv : zL) (st : List Value) (w : zW) (nx K : Nat → zL → List Value → zW → Prop) (Rt : Option Value → zW → Prop) : z_st1 (tL_law 648) 648 lv st w nx K Rt = (z_2i st (fun x y r => nx 649 lv (.int (x + y) :: r) w)) := id rfl
theorem sL_law_650 (lv : zL) (st : List Value) (w : zW) (nx K : Nat → zL → List Value → zW → Prop) (Rt : Option Value → zW → Prop) : z_st1 (tL_law 650) 650 lv st w nx K Rt = (z_la lv 0 (fun x => nx 651 lv (.ref x :: st) w)) := id rfl
theorem sL_law_651 (lv : zL) (st : List Value) (w : zW) (nx K : Nat → zL → List Value → zW → Prop) (Rt : Option Value → zW → Prop) : z_st1 (tL_law 651) 651 lv st w nx K Rt = (z_li lv 4 (fun x => nx 653 lv (.int x :: st) w)) := id rfl
theorem sL_law_653 (lv : zL) (st : List Value) (w : zW) (nx K : Nat → zL → List Value → zW → Prop) (Rt : Option Value → zW → Prop) : z_st1 (tL_law 653) 653 lv st w nx K Rt = (nx 654 lv (.int (2 : Int32) :: st) w) := id rfl
theorem sL_law_654 (lv : zL) (st : List Value) (w : zW) (nx K : Nat → zL → List Value → zW → Prop) (Rt : Option Value → zW → Prop) : z_st1 (tL_law 654) 654 lv st w nx K Rt = (z_2i st (fun x y r => nx 655 lv (.int (x + y) :: r) w)) := id rfl
theorem sL_law_659 (lv : zL) (st : List Value) (w : zW) (nx K : Nat → zL → List Value → zW → Prop) (Rt : Option Value → zW → Prop) : z_st1 (tL_law 659) 659 lv st w nx K Rt = (z_2i st (fun x y r => (x = y → nx 783 lv r w) ∧ (¬ x = y → nx 662 lv r w))) := id rfl
theorem sL_law_662 (lv : zL) (st : List Value) (w : zW) (nx K : Nat → zL → List Value → zW → Prop) (Rt : Option Value → zW → Prop) : z_st1 (tL_law 662) 662 lv st w nx K Rt = (nx 663 lv (.int (0 : Int32) :: st) w) := id rfl
theorem sL_law_663 (lv : zL) (st : List Value) (w : zW) (nx K : Nat → zL → List Value → zW → Prop) (Rt : Option Value → zW → Prop) : z_st1 (tL_law 663) 663 lv st w nx K Rt = (z_e1 st (fun x => (x = 0 ∨ x = 1) ∧ Rt (some (.int x)) w)) := id rfl
theorem sL_law_664 (lv : zL) (st : List Value) (w : zW) (nx K : Nat → zL → List Value → zW → Prop) (Rt : Option Value → zW → Prop) : z_st1 (tL_law 664) 664 lv st w nx K Rt = (z_la lv 1 (fun x => nx 665 lv (.ref x :: st) w)) := id rfl
theorem sL_law_668 (lv : zL) (st : List Value) (w : zW) (nx K : Nat → zL → List Value → zW → Prop) (Rt : Option Value → zW → Prop) : z_st1 (tL_law 668) 668 lv st w nx K Rt = (z_la lv 2 (fun x => nx 669 lv (.ref x :: st) w)) := id rfl
theorem sL_law_672 (lv : zL) (st : List Value) (w : zW) (nx K : Nat → zL → List Value → zW → Prop) (Rt : Option Value → zW → Prop) : z_st1 (tL_law 672) 672 lv st w nx K Rt = (z_2i st (fun x y r => (x = y → nx 783 lv r w) ∧ (¬ x = y → nx 675 lv r w))) := id rfl
theorem sL_law_675 (lv : zL) (st : List Value) (w : zW) (nx K : Nat → zL → List Value → zW → Prop) (Rt : Option Value → zW → Prop) : z_st1 (tL_law 675) 675 lv st w nx K Rt = (nx 676 lv (.int (0 : Int32) :: st) w) := id rfl
theorem sL_law_676 (lv : zL) (st : List Value) (w : zW) (nx K : Nat → zL → List Value → zW → Prop) (Rt : Option Value → zW → Prop) : z_st1 (tL_law 676) 676 lv st w nx K Rt = (z_e1 st (fun x => (x = 0 ∨ x = 1) ∧ Rt (some (.int x)) w)) := id rfl
theorem sL_law_677 (lv : zL) (st : List Value) (w : zW) (nx K : Nat → zL → List Value → zW → Prop) (Rt : Option Value → zW → Prop) : z_st1 (tL_law 677) 677 lv st w nx K Rt = (z_la lv 1 (fun x => nx 678 lv (.ref x :: st) w)) := id rfl
theorem sL_law_678 (lv : zL) (st : List Value) (w : zW) (nx K : Nat → zL → List Value → zW → Prop) (Rt : Option Value → zW → Prop) : z_st1 (tL_law 678) 678 lv st w nx K Rt = (z_la lv 0 (fun x => nx 679 lv (.ref x :: st) w)) := id rfl
theorem sL_law_679 (lv : zL) (st : List Value) (w : zW) (nx K : Nat → zL → List Value → zW → Prop) (Rt : Option Value → zW → Prop) : z_st1 (tL_law 679) 679 lv st w nx K Rt = (z_li lv 4 (fun x => nx 681 lv (.int x :: st) w)) := id rfl
theorem sL_law_681 (lv : zL) (st : List Value) (w : zW) (nx K : Nat → zL → List Value → zW → Prop) (Rt : Option Value → zW → Prop) : z_st1 (tL_law 681) 681 lv st w nx K Rt = (nx 682 lv (.int (1 : Int32) :: st) w) := id rfl
theorem sL_law_682 (lv : zL) (st : List Value) (w : zW) (nx K : Nat → zL → List Value → zW → Prop) (Rt : Option Value → zW → Prop) : z_st1 (tL_law 682) 682 lv st w nx K Rt = (z_2i st (fun x y r => nx 683 lv (.int (x + y) :: r) w)) := id rfl
theorem sL_law_684 (lv : zL) (st : List Value) (w : zW) (nx K : Nat → zL → List Value → zW → Prop) (Rt : Option Value → zW → Prop) : z_st1 (tL_law 684) 684 lv st w nx K Rt = (z_la lv 0 (fun x => nx 685 lv (.ref x :: st) w)) := id rfl
theorem sL_law_685 (lv : zL) (st : List Value) (w : zW) (nx K : Nat → zL → List Value → zW → Prop) (Rt : Option Value → zW → Prop) : z_st1 (tL_law 685) 685 lv st w nx K Rt = (z_li lv 4 (fun x => nx 687 lv (.int x :: st) w)) := id rfl
theorem sL_law_687 (lv : zL) (st : List Value) (w : zW) (nx K : Nat → zL → List Value → zW → Prop) (Rt : Option Value → zW → Prop) : z_st1 (tL_law 687) 687 lv st w nx K Rt = (nx 688 lv (.int (2 : Int32) :: st) w) := id rfl
theorem sL_law_688 (lv : zL) (st : List Value) (w : zW) (nx K : Nat → zL → List Value → zW → Prop) (Rt : Option Value → zW → Prop) : z_st1 (tL_law 688) 688 lv st w nx K Rt = (z_2i st (fun x y r => nx 689 lv (.int (x + y) :: r) w)) := id rfl
theorem sL_law_690 (lv : zL) (st : List Value) (w : zW) (nx K : Nat → zL → List Value → zW → Prop) (Rt : Option Value → zW → Prop) : z_st1 (tL_law 690) 690 lv st w nx K Rt = (z_la lv 3 (fun x => nx 691 lv (.ref x :: st) w)) := id rfl
theorem sL_law_694 (lv : zL) (st : List Value) (w : zW) (nx K : Nat → zL → List Value → zW → Prop) (Rt : Option Value → zW → Prop) : z_st1 (tL_law 694) 694 lv st w nx K Rt = (z_1i st (fun x r => z_ok1 lv 5 = true ∧ nx 696 (lv.set 5 (some (.int x))) r w)) := id rfl
theorem sL_law_696 (lv : zL) (st : List Value) (w : zW) (nx K : Nat → zL → List Value → zW → Prop) (Rt : Option Value → zW → Prop) : z_st1 (tL_law 696) 696 lv st w nx K Rt = (z_la lv 2 (fun x => nx 697 lv (.ref x :: st) w)) := id rfl
theorem sL_law_697 (lv : zL) (st : List Value) (w : zW) (nx K : Nat → zL → List Value → zW → Prop) (Rt : Option Value → zW → Prop) : z_st1 (tL_law 697) 697 lv st w nx K Rt = (z_la lv 0 (fun x => nx 698 lv (.ref x :: st) w)) := id rfl
theorem sL_law_698 (lv : zL) (st : List Value) (w : zW) (nx K : Nat → zL → List Value → zW → Prop) (Rt : Option Value → zW → Prop) : z_st1 (tL_law 698) 698 lv st w nx K Rt = (z_li lv 4 (fun x => nx 700 lv (.int x :: st) w)) := id rfl
theorem sL_law_700 (lv : zL) (st : List Value) (w : zW) (nx K : Nat → zL → List Value → zW → Prop) (Rt : Option Value → zW → Prop) : z_st1 (tL_law 700) 700 lv st w nx K Rt = (nx 701 lv (.int (1 : Int32) :: st) w) := id rfl
theorem sL_law_701 (lv : zL) (st : List Value) (w : zW) (nx K : Nat → zL → List Value → zW → Prop) (Rt : Option Value → zW → Prop) : z_st1 (tL_law 701) 701 lv st w nx K Rt = (z_2i st (fun x y r => nx 702 lv (.int (x + y) :: r) w)) := id rfl
theorem sL_law_703 (lv : zL) (st : List Value) (w : zW) (nx K : Nat → zL → List Value → zW → Prop) (Rt : Option Value → zW → Prop) : z_st1 (tL_law 703) 703 lv st w nx K Rt = (z_la lv 0 (fun x => nx 704 lv (.ref x :: st) w)) := id rfl
theorem sL_law_704 (lv : zL) (st : List Value) (w : zW) (nx K : Nat → zL → List Value → zW → Prop) (Rt : Option Value → zW → Prop) : z_st1 (tL_law 704) 704 lv st w nx K Rt = (z_li lv 4 (fun x => nx 706 lv (.int x :: st) w)) := id rfl
theorem sL_law_706 (lv : zL) (st : List Value) (w : zW) (nx K : Nat → zL → List Value → zW → Prop) (Rt : Option Value → zW → Prop) : z_st1 (tL_law 706) 706 lv st w nx K Rt = (nx 707 lv (.int (2 : Int32) :: st) w) := id rfl
theorem sL_law_707 (lv : zL) (st : List Value) (w : zW) (nx K : Nat → zL → List Value → zW → Prop) (Rt : Option Value → zW → Prop) : z_st1 (tL_law 707) 707 lv st w nx K Rt = (z_2i st (fun x y r => nx 708 lv (.int (x + y) :: r) w)) := id rfl
theorem sL_law_712 (lv : zL) (st : List Value) (w : zW) (nx K : Nat → zL → List Value → zW → Prop) (Rt : Option Value → zW → Prop) : z_st1 (tL_law 712) 712 lv st w nx K Rt = (z_1i st (fun x r => z_ok1 lv 6 = true ∧ nx 714 (lv.set 6 (some (.int x))) r w)) := id rfl
theorem sL_law_714 (lv : zL) (st : List Value) (w : zW) (nx K : Nat → zL → List Value → zW → Prop) (Rt : Option Value → zW → Prop) : z_st1 (tL_law 714) 714 lv st w nx K Rt = (z_la lv 2 (fun x => nx 715 lv (.ref x :: st) w)) := id rfl
theorem sL_law_718 (lv : zL) (st : List Value) (w : zW) (nx K : Nat → zL → List Value → zW → Prop) (Rt : Option Value → zW → Prop) : z_st1 (tL_law 718) 718 lv st w nx K Rt = (z_li lv 5 (fun x => nx 720 lv (.int x :: st) w)) := id rfl
theorem sL_law_720 (lv : zL) (st : List Value) (w : zW) (nx K : Nat → zL → List Value → zW → Prop) (Rt : Option Value → zW → Prop) : z_st1 (tL_law 720) 720 lv st w nx K Rt = (z_2i st (fun x y r => (x = y → nx 725 lv r w) ∧ (¬ x = y → nx 723 lv r w))) := id rfl
theorem sL_law_723 (lv : zL) (st : List Value) (w : zW) (nx K : Nat → zL → List Value → zW → Prop) (Rt : Option Value → zW → Prop) : z_st1 (tL_law 723) 723 lv st w nx K Rt = (nx 724 lv (.int (0 : Int32) :: st) w) := id rfl
theorem sL_law_724 (lv : zL) (st : List Value) (w : zW) (nx K : Nat → zL → List Value → zW → Prop) (Rt : Option Value → zW → Prop) : z_st1 (tL_law 724) 724 lv st w nx K Rt = (z_e1 st (fun x => (x = 0 ∨ x = 1) ∧ Rt (some (.int x)) w)) := id rfl
theorem sL_law_725 (lv : zL) (st : List Value) (w : zW) (nx K : Nat → zL → List Value → zW → Prop) (Rt : Option Value → zW → Prop) : z_st1 (tL_law 725) 725 lv st w nx K Rt = (z_li lv 5 (fun x => nx 727 lv (.int x :: st) w)) := id rfl
theorem sL_law_727 (lv : zL) (st : List Value) (w : zW) (nx K : Nat → zL → List Value → zW → Prop) (Rt : Option Value → zW → Prop) : z_st1 (tL_law 727) 727 lv st w nx K Rt = (z_1i st (fun x r => (¬ x = 0 → nx 742 lv r w) ∧ (x = 0 → nx 730 lv r w))) := id rfl
theorem sL_law_730 (lv : zL) (st : List Value) (w : zW) (nx K : Nat → zL → List Value → zW → Prop) (Rt : Option Value → zW → Prop) : z_st1 (tL_law 730) 730 lv st w nx K Rt = (z_la lv 3 (fun x => nx 731 lv (.ref x :: st) w)) := id rfl
theorem sL_law_731 (lv : zL) (st : List Value) (w : zW) (nx K : Nat → zL → List Value → zW → Prop) (Rt : Option Value → zW → Prop) : z_st1 (tL_law 731) 731 lv st w nx K Rt = (nx 732 lv (.int (0 : Int32) :: st) w) := id rfl
theorem sL_law_732 (lv : zL) (st : List Value) (w : zW) (nx K : Nat → zL → List Value → zW → Prop) (Rt : Option Value → zW → Prop) : z_st1 (tL_law 732) 732 lv st w nx K Rt = (z_ia st (fun x i r => z_ar2 w x (fun m g => vp_in i m ∧ nx 733 lv (.long (g i.toNatClampNeg) :: r) w))) := id rfl
theorem sL_law_733 (lv : zL) (st : List Value) (w : zW) (nx K : Nat → zL → List Value → zW → Prop) (Rt : Option Value → zW → Prop) : z_st1 (tL_law 733) 733 lv st w nx K Rt = (z_li lv 6 (fun x => nx 735 lv (.int x :: st) w)) := id rfl
theorem sL_law_735 (lv : zL) (st : List Value) (w : zW) (nx K : Nat → zL → List Value → zW → Prop) (Rt : Option Value → zW → Prop) : z_st1 (tL_law 735) 735 lv st w nx K Rt = (z_1i st (fun x r => nx 736 lv (.long x.toInt64 :: r) w)) := id rfl
theorem sL_law_736 (lv : zL) (st : List Value) (w : zW) (nx K : Nat → zL → List Value → zW → Prop) (Rt : Option Value → zW → Prop) : z_st1 (tL_law 736) 736 lv st w nx K Rt = (z_2l st (fun x y r => nx 737 lv (.int (lg_cmp x y) :: r) w)) := id rfl
theorem sL_law_737 (lv : zL) (st : List Value) (w : zW) (nx K : Nat → zL → List Value → zW → Prop) (Rt : Option Value → zW → Prop) : z_st1 (tL_law 737) 737 lv st w nx K Rt = (z_1i st (fun x r => (x = 0 → nx 742 lv r w) ∧ (¬ x = 0 → nx 740 lv r w))) := id rfl
theorem sL_law_740 (lv : zL) (st : List Value) (w : zW) (nx K : Nat → zL → List Value → zW → Prop) (Rt : Option Value → zW → Prop) : z_st1 (tL_law 740) 740 lv st w nx K Rt = (nx 741 lv (.int (0 : Int32) :: st) w) := id rfl
theorem sL_law_741 (lv : zL) (st : List Value) (w : zW) (nx K : Nat → zL → List Value → zW → Prop) (Rt : Option Value → zW → Prop) : z_st1 (tL_law 741) 741 lv st w nx K Rt = (z_e1 st (fun x => (x = 0 ∨ x = 1) ∧ Rt (some (.int x)) w)) := id rfl
theorem sL_law_742 (lv : zL) (st : List Value) (w : zW) (nx K : Nat → zL → List Value → zW → Prop) (Rt : Option Value → zW → Prop) : z_st1 (tL_law 742) 742 lv st w nx K Rt = (nx 783 lv st w) := id rfl
theorem sL_law_745 (lv : zL) (st : List Value) (w : zW) (nx K : Nat → zL → List Value → zW → Prop) (Rt : Option Value → zW → Prop) : z_st1 (tL_law 745) 745 lv st w nx K Rt = (z_la lv 1 (fun x => nx 746 lv (.ref x :: st) w)) := id rfl
theorem sL_law_749 (lv : zL) (st : List Value) (w : zW) (nx K : Nat → zL → List Value → zW → Prop) (Rt : Option Value → zW → Prop) : z_st1 (tL_law 749) 749 lv st w nx K Rt = (z_la lv 2 (fun x => nx 750 lv (.ref x :: st) w)) := id rfl
theorem sL_law_753 (lv : zL) (st : List Value) (w : zW) (nx K : Nat → zL → List Value → zW → Prop) (Rt : Option Value → zW → Prop) : z_st1 (tL_law 753) 753 lv st w nx K Rt = (z_2i st (fun x y r => (x = y → nx 783 lv r w) ∧ (¬ x = y → nx 756 lv r w))) := id rfl
theorem sL_law_756 (lv : zL) (st : List Value) (w : zW) (nx K : Nat → zL → List Value → zW → Prop) (Rt : Option Value → zW → Prop) : z_st1 (tL_law 756) 756 lv st w nx K Rt = (nx 757 lv (.int (0 : Int32) :: st) w) := id rfl
theorem sL_law_757 (lv : zL) (st : List Value) (w : zW) (nx K : Nat → zL → List Value → zW → Prop) (Rt : Option Value → zW → Prop) : z_st1 (tL_law 757) 757 lv st w nx K Rt = (z_e1 st (fun x => (x = 0 ∨ x = 1) ∧ Rt (some (.int x)) w)) := id rfl
theorem sL_law_758 (lv : zL) (st : List Value) (w : zW) (nx K : Nat → zL → List Value → zW → Prop) (Rt : Option Value → zW → Prop) : z_st1 (tL_law 758) 758 lv st w nx K Rt = (z_la lv 1 (fun x => nx 759 lv (.ref x :: st) w)) := id rfl
theorem sL_law_759 (lv : zL) (st : List Value) (w : zW) (nx K : Nat → zL → List Value → zW → Prop) (Rt : Option Value → zW → Prop) : z_st1 (tL_law 759) 759 lv st w nx K Rt = (z_la lv 0 (fun x => nx 760 lv (.ref x :: st) w)) := id rfl
theorem sL_law_760 (lv : zL) (st : List Value) (w : zW) (nx K : Nat → zL → List Value → zW → Prop) (Rt : Option Value → zW → Prop) : z_st1 (tL_law 760) 760 lv st w nx K Rt = (z_li lv 4 (fun x => nx 762 lv (.int x :: st) w)) := id rfl
theorem sL_law_762 (lv : zL) (st : List Value) (w : zW) (nx K : Nat → zL → List Value → zW → Prop) (Rt : Option Value → zW → Prop) : z_st1 (tL_law 762) 762 lv st w nx K Rt = (nx 763 lv (.int (1 : Int32) :: st) w) := id rfl
theorem sL_law_763 (lv : zL) (st : List Value) (w : zW) (nx K : Nat → zL → List Value → zW → Prop) (Rt : Option Value → zW → Prop) : z_st1 (tL_law 763) 763 lv st w nx K Rt = (z_2i st (fun x y r => nx 764 lv (.int (x + y) :: r) w)) := id rfl
theorem sL_law_768 (lv : zL) (st : List Value) (w : zW) (nx K : Nat → zL → List Value → zW → Prop) (Rt : Option Value → zW → Prop) : z_st1 (tL_law 768) 768 lv st w nx K Rt = (z_la lv 2 (fun x => nx 769 lv (.ref x :: st) w)) := id rfl
theorem sL_law_769 (lv : zL) (st : List Value) (w : zW) (nx K : Nat → zL → List Value → zW → Prop) (Rt : Option Value → zW → Prop) : z_st1 (tL_law 769) 769 lv st w nx K Rt = (z_la lv 0 (fun x => nx 770 lv (.ref x :: st) w)) := id rfl
theorem sL_law_770 (lv : zL) (st : List Value) (w : zW) (nx K : Nat → zL → List Value → zW → Prop) (Rt : Option Value → zW → Prop) : z_st1 (tL_law 770) 770 lv st w nx K Rt = (z_li lv 4 (fun x => nx 772 lv (.int x :: st) w)) := id rfl
theorem sL_law_772 (lv : zL) (st : List Value) (w : zW) (nx K : Nat → zL → List Value → zW → Prop) (Rt : Option Value → zW → Prop) : z_st1 (tL_law 772) 772 lv st w nx K Rt = (nx 773 lv (.int (1 : Int32) :: st) w) := id rfl
theorem sL_law_773 (lv : zL) (st : List Value) (w : zW) (nx K : Nat → zL → List Value → zW → Prop) (Rt : Option Value → zW → Prop) : z_st1 (tL_law 773) 773 lv st w nx K Rt = (z_2i st (fun x y r => nx 774 lv (.int (x + y) :: r) w)) := id rfl
theorem sL_law_778 (lv : zL) (st : List Value) (w : zW) (nx K : Nat → zL → List Value → zW → Prop) (Rt : Option Value → zW → Prop) : z_st1 (tL_law 778) 778 lv st w nx K Rt = (z_2i st (fun x y r => (x = y → nx 783 lv r w) ∧ (¬ x = y → nx 781 lv r w))) := id rfl
theorem sL_law_781 (lv : zL) (st : List Value) (w : zW) (nx K : Nat → zL → List Value → zW → Prop) (Rt : Option Value → zW → Prop) : z_st1 (tL_law 781) 781 lv st w nx K Rt = (nx 782 lv (.int (0 : Int32) :: st) w) := id rfl
theorem sL_law_782 (lv : zL) (st : List Value) (w : zW) (nx K : Nat → zL → List Value → zW → Prop) (Rt : Option Value → zW → Prop) : z_st1 (tL_law 782) 782 lv st w nx K Rt = (z_e1 st (fun x => (x = 0 ∨ x = 1) ∧ Rt (some (.int x)) w)) := id rfl
theorem sL_law_783 (lv : zL) (st : List Value) (w : zW) (nx K : Nat → zL → List Value → zW → Prop) (Rt : Option Value → zW → Prop) : z_st1 (tL_law 783) 783 lv st w nx K Rt = (z_li lv 4 (fun x => z_ok1 lv 4 = true ∧ nx 786 (lv.set 4 (some (.int (x + (5 : Int32))))) st w)) := id rfl
theorem sL_law_786 (lv : zL) (st : List Value) (w : zW) (nx K : Nat → zL → List Value → zW → Prop) (Rt : Option Value → zW → Prop) : z_st1 (tL_law 786) 786 lv st w nx K Rt = (nx 23 lv st w) := id rfl
theorem sL_law_789 (lv : zL) (st : List Value) (w : zW) (nx K : Nat → zL → List Value → zW → Prop) (Rt : Option Value → zW → Prop) : z_st1 (tL_law 789) 789 lv st w nx K Rt = (nx 790 lv (.int (1 : Int32) :: st) w) := id rfl
theorem sL_law_790 (lv : zL) (st : List Value) (w : zW) (nx K : Nat → zL → List Value → zW → Prop) (Rt : Option Value → zW → Prop) : z_st1 (tL_law 790) 790 lv st w nx K Rt = (z_e1 st (fun x => (x = 0 ∨ x = 1) ∧ Rt (some (.int x)) w)) := id rfl
theorem sL_law_0 (lv : zL) (st : List Value) (w : zW) (nx K : Nat → zL → List Value → zW → Prop) (Rt : Option Value → zW → Prop) : z_st1 (tL_law 0) 0 lv st w nx K Rt = K 0 lv st w := id rfl
theorem sL_law_4 (lv : zL) (st : List Value) (w : zW) (nx K : Nat → zL → List Value → zW → Prop) (Rt : Option Value → zW → Prop) : z_st1 (tL_law 4) 4 lv st w nx K Rt = K 4 lv st w := id rfl
theorem sL_law_8 (lv : zL) (st : List Value) (w : zW) (nx K : Nat → zL → List Value → zW → Prop) (Rt : Option Value → zW → Prop) : z_st1 (tL_law 8) 8 lv st w nx K Rt = K 8 lv st w := id rfl
theorem sL_law_12 (lv : zL) (st : List Value) (w : zW) (nx K : Nat → zL → List Value → zW → Prop) (Rt : Option Value → zW → Prop) : z_st1 (tL_law 12) 12 lv st w nx K Rt = K 12 lv st w := id rfl
theorem sL_law_17 (lv : zL) (st : List Value) (w : zW) (nx K : Nat → zL → List Value → zW → Prop) (Rt : Option Value → zW → Prop) : z_st1 (tL_law 17) 17 lv st w nx K Rt = K 17 lv st w := id rfl
theorem sL_law_26 (lv : zL) (st : List Value) (w : zW) (nx K : Nat → zL → List Value → zW → Prop) (Rt : Option Value → zW → Prop) : z_st1 (tL_law 26) 26 lv st w nx K Rt = K 26 lv st w := id rfl
theorem sL_law_35 (lv : zL) (st : List Value) (w : zW) (nx K : Nat → zL → List Value → zW → Prop) (Rt : Option Value → zW → Prop) : z_st1 (tL_law 35) 35 lv st w nx K Rt = K 35 lv st w := id rfl
theorem sL_law_39 (lv : zL) (st : List Value) (w : zW) (nx K : Nat → zL → List Value → zW → Prop) (Rt : Option Value → zW → Prop) : z_st1 (tL_law 39) 39 lv st w nx K Rt = K 39 lv st w := id rfl
theorem sL_law_130 (lv : zL) (st : List Value) (w : zW) (nx K : Nat → zL → List Value → zW → Prop) (Rt : Option Value → zW → Prop) : z_st1 (tL_law 130) 130 lv st w nx K Rt = K 130 lv st w := id rfl
theorem sL_law_132 (lv : zL) (st : List Value) (w : zW) (nx K : Nat → zL → List Value → zW → Prop) (Rt : Option Value → zW → Prop) : z_st1 (tL_law 132) 132 lv st w nx K Rt = K 132 lv st w := id rfl
theorem sL_law_143 (lv : zL) (st : List Value) (w : zW) (nx K : Nat → zL → List Value → zW → Prop) (Rt : Option Value → zW → Prop) : z_st1 (tL_law 143) 143 lv st w nx K Rt = K 143 lv st w := id rfl
theorem sL_law_144 (lv : zL) (st : List Value) (w : zW) (nx K : Nat → zL → List Value → zW → Prop) (Rt : Option Value → zW → Prop) : z_st1 (tL_law 144) 144 lv st w nx K Rt = K 144 lv st w := id rfl
theorem sL_law_150 (lv : zL) (st : List Value) (w : zW) (nx K : Nat → zL → List Value → zW → Prop) (Rt : Option Value → zW → Prop) : z_st1 (tL_law 150) 150 lv st w nx K Rt = K 150 lv st w := id rfl
theorem sL_law_186 (lv : zL) (st : List Value) (w : zW) (nx K : Nat → zL → List Value → zW → Prop) (Rt : Option Value → zW → Prop) : z_st1 (tL_law 186) 186 lv st w nx K Rt = K 186 lv st w := id rfl
theorem sL_law_187 (lv : zL) (st : List Value) (w : zW) (nx K : Nat → zL → List Value → zW → Prop) (Rt : Option Value → zW → Prop) : z_st1 (tL_law 187) 187 lv st w nx K Rt = K 187 lv st w := id rfl
theorem sL_law_196 (lv : zL) (st : List Value) (w : zW) (nx K : Nat → zL → List Value → zW → Prop) (Rt : Option Value → zW → Prop) : z_st1 (tL_law 196) 196 lv st w nx K Rt = K 196 lv st w := id rfl
theorem sL_law_197 (lv : zL) (st : List Value) (w : zW) (nx K : Nat → zL → List Value → zW → Prop) (Rt : Option Value → zW → Prop) : z_st1 (tL_law 197) 197 lv st w nx K Rt = K 197 lv st w := id rfl
theorem sL_law_211 (lv : zL) (st : List Value) (w : zW) (nx K : Nat → zL → List Value → zW → Prop) (Rt : Option Value → zW → Prop) : z_st1 (tL_law 211) 211 lv st w nx K Rt = K 211 lv st w := id rfl
theorem sL_law_217 (lv : zL) (st : List Value) (w : zW) (nx K : Nat → zL → List Value → zW → Prop) (Rt : Option Value → zW → Prop) : z_st1 (tL_law 217) 217 lv st w nx K Rt = K 217 lv st w := id rfl
theorem sL_law_223 (lv : zL) (st : List Value) (w : zW) (nx K : Nat → zL → List Value → zW → Prop) (Rt : Option Value → zW → Prop) : z_st1 (tL_law 223) 223 lv st w nx K Rt = K 223 lv st w := id rfl
theorem sL_law_229 (lv : zL) (st : List Value) (w : zW) (nx K : Nat → zL → List Value → zW → Prop) (Rt : Option Value → zW → Prop) : z_st1 (tL_law 229) 229 lv st w nx K Rt = K 229 lv st w := id rfl
theorem sL_law_238 (lv : zL) (st : List Value) (w : zW) (nx K : Nat → zL → List Value → zW → Prop) (Rt : Option Value → zW → Prop) : z_st1 (tL_law 238) 238 lv st w nx K Rt = K 238 lv st w := id rfl
theorem sL_law_247 (lv : zL) (st : List Value) (w : zW) (nx K : Nat → zL → List Value → zW → Prop) (Rt : Option Value → zW → Prop) : z_st1 (tL_law 247) 247 lv st w nx K Rt = K 247 lv st w := id rfl
theorem sL_law_253 (lv : zL) (st : List Value) (w : zW) (nx K : Nat → zL → List Value → zW → Prop) (Rt : Option Value → zW → Prop) : z_st1 (tL_law 253) 253 lv st w nx K Rt = K 253 lv st w := id rfl
theorem sL_law_259 (lv : zL) (st : List Value) (w : zW) (nx K : Nat → zL → List Value → zW → Prop) (Rt : Option Value → zW → Prop) : z_st1 (tL_law 259) 259 lv st w nx K Rt = K 259 lv st w := id rfl
theorem sL_law_265 (lv : zL) (st : List Value) (w : zW) (nx K : Nat → zL → List Value → zW → Prop) (Rt : Option Value → zW → Prop) : z_st1 (tL_law 265) 265 lv st w nx K Rt = K 265 lv st w := id rfl
theorem sL_law_274 (lv : zL) (st : List Value) (w : zW) (nx K : Nat → zL → List Value → zW → Prop) (Rt : Option Value → zW → Prop) : z_st1 (tL_law 274) 274 lv st w nx K Rt = K 274 lv st w := id rfl
theorem sL_law_283 (lv : zL) (st : List Value) (w : zW) (nx K : Nat → zL → List Value → zW → Prop) (Rt : Option Value → zW → Prop) : z_st1 (tL_law 283) 283 lv st w nx K Rt = K 283 lv st w := id rfl
theorem sL_law_287 (lv : zL) (st : List Value) (w : zW) (nx K : Nat → zL → List Value → zW → Prop) (Rt : Option Value → zW → Prop) : z_st1 (tL_law 287) 287 lv st w nx K Rt = K 287 lv st w := id rfl
theorem sL_law_301 (lv : zL) (st : List Value) (w : zW) (nx K : Nat → zL → List Value → zW → Prop) (Rt : Option Value → zW → Prop) : z_st1 (tL_law 301) 301 lv st w nx K Rt = K 301 lv st w := id rfl
theorem sL_law_307 (lv : zL) (st : List Value) (w : zW) (nx K : Nat → zL → List Value → zW → Prop) (Rt : Option Value → zW → Prop) : z_st1 (tL_law 307) 307 lv st w nx K Rt = K 307 lv st w := id rfl
theorem sL_law_313 (lv : zL) (st : List Value) (w : zW) (nx K : Nat → zL → List Value → zW → Prop) (Rt : Option Value → zW → Prop) : z_st1 (tL_law 313) 313 lv st w nx K Rt = K 313 lv st w := id rfl
theorem sL_law_314 (lv : zL) (st : List Value) (w : zW) (nx K : Nat → zL → List Value → zW → Prop) (Rt : Option Value → zW → Prop) : z_st1 (tL_law 314) 314 lv st w nx K Rt = K 314 lv st w := id rfl
theorem sL_law_323 (lv : zL) (st : List Value) (w : zW) (nx K : Nat → zL → List Value → zW → Prop) (Rt : Option Value → zW → Prop) : z_st1 (tL_law 323) 323 lv st w nx K Rt = K 323 lv st w := id rfl
theorem sL_law_329 (lv : zL) (st : List Value) (w : zW) (nx K : Nat → zL → List Value → zW → Prop) (Rt : Option Value → zW → Prop) : z_st1 (tL_law 329) 329 lv st w nx K Rt = K 329 lv st w := id rfl
theorem sL_law_335 (lv : zL) (st : List Value) (w : zW) (nx K : Nat → zL → List Value → zW → Prop) (Rt : Option Value → zW → Prop) : z_st1 (tL_law 335) 335 lv st w nx K Rt = K 335 lv st w := id rfl
theorem sL_law_336 (lv : zL) (st : List Value) (w : zW) (nx K : Nat → zL → List Value → zW → Prop) (Rt : Option Value → zW → Prop) : z_st1 (tL_law 336) 336 lv st w nx K Rt = K 336 lv st w := id rfl
theorem sL_law_350 (lv : zL) (st : List Value) (w : zW) (nx K : Nat → zL → List Value → zW → Prop) (Rt : Option Value → zW → Prop) : z_st1 (tL_law 350) 350 lv st w nx K Rt = K 350 lv st w := id rfl
theorem sL_law_356 (lv : zL) (st : List Value) (w : zW) (nx K : Nat → zL → List Value → zW → Prop) (Rt : Option Value → zW → Prop) : z_st1 (tL_law 356) 356 lv st w nx K Rt = K 356 lv st w := id rfl
theorem sL_law_362 (lv : zL) (st : List Value) (w : zW) (nx K : Nat → zL → List Value → zW → Prop) (Rt : Option Value → zW → Prop) : z_st1 (tL_law 362) 362 lv st w nx K Rt = K 362 lv st w := id rfl
theorem sL_law_363 (lv : zL) (st : List Value) (w : zW) (nx K : Nat → zL → List Value → zW → Prop) (Rt : Option Value → zW → Prop) : z_st1 (tL_law 363) 363 lv st w nx K Rt = K 363 lv st w := id rfl
theorem sL_law_372 (lv : zL) (st : List Value) (w : zW) (nx K : Nat → zL → List Value → zW → Prop) (Rt : Option Value → zW → Prop) : z_st1 (tL_law 372) 372 lv st w nx K Rt = K 372 lv st w := id rfl
theorem sL_law_378 (lv : zL) (st : List Value) (w : zW) (nx K : Nat → zL → List Value → zW → Prop) (Rt : Option Value → zW → Prop) : z_st1 (tL_law 378) 378 lv st w nx K Rt = K 378 lv st w := id rfl
theorem sL_law_384 (lv : zL) (st : List Value) (w : zW) (nx K : Nat → zL → List Value → zW → Prop) (Rt : Option Value → zW → Prop) : z_st1 (tL_law 384) 384 lv st w nx K Rt = K 384 lv st w := id rfl
theorem sL_law_385 (lv : zL) (st : List Value) (w : zW) (nx K : Nat → zL → List Value → zW → Prop) (Rt : Option Value → zW → Prop) : z_st1 (tL_law 385) 385 lv st w nx K Rt = K 385 lv st w := id rfl
theorem sL_law_399 (lv : zL) (st : List Value) (w : zW) (nx K : Nat → zL → List Value → zW → Prop) (Rt : Option Value → zW → Prop) : z_st1 (tL_law 399) 399 lv st w nx K Rt = K 399 lv st w := id rfl
theorem sL_law_405 (lv : zL) (st : List Value) (w : zW) (nx K : Nat → zL → List Value → zW → Prop) (Rt : Option Value → zW → Prop) : z_st1 (tL_law 405) 405 lv st w nx K Rt = K 405 lv st w := id rfl
theorem sL_law_406 (lv : zL) (st : List Value) (w : zW) (nx K : Nat → zL → List Value → zW → Prop) (Rt : Option Value → zW → Prop) : z_st1 (tL_law 406) 406 lv st w nx K Rt = K 406 lv st w := id rfl
theorem sL_law_415 (lv : zL) (st : List Value) (w : zW) (nx K : Nat → zL → List Value → zW → Prop) (Rt : Option Value → zW → Prop) : z_st1 (tL_law 415) 415 lv st w nx K Rt = K 415 lv st w := id rfl
theorem sL_law_421 (lv : zL) (st : List Value) (w : zW) (nx K : Nat → zL → List Value → zW → Prop) (Rt : Option Value → zW → Prop) : z_st1 (tL_law 421) 421 lv st w nx K Rt = K 421 lv st w := id rfl
theorem sL_law_422 (lv : zL) (st : List Value) (w : zW) (nx K : Nat → zL → List Value → zW → Prop) (Rt : Option Value → zW → Prop) : z_st1 (tL_law 422) 422 lv st w nx K Rt = K 422 lv st w := id rfl
theorem sL_law_436 (lv : zL) (st : List Value) (w : zW) (nx K : Nat → zL → List Value → zW → Prop) (Rt : Option Value → zW → Prop) : z_st1 (tL_law 436) 436 lv st w nx K Rt = K 436 lv st w := id rfl
theorem sL_law_442 (lv : zL) (st : List Value) (w : zW) (nx K : Nat → zL → List Value → zW → Prop) (Rt : Option Value → zW → Prop) : z_st1 (tL_law 442) 442 lv st w nx K Rt = K 442 lv st w := id rfl
theorem sL_law_448 (lv : zL) (st : List Value) (w : zW) (nx K : Nat → zL → List Value → zW → Prop) (Rt : Option Value → zW → Prop) : z_st1 (tL_law 448) 448 lv st w nx K Rt = K 448 lv st w := id rfl
theorem sL_law_449 (lv : zL) (st : List Value) (w : zW) (nx K : Nat → zL → List Value → zW → Prop) (Rt : Option Value → zW → Prop) : z_st1 (tL_law 449) 449 lv st w nx K Rt = K 449 lv st w := id rfl
theorem sL_law_458 (lv : zL) (st : List Value) (w : zW) (nx K : Nat → zL → List Value → zW → Prop) (Rt : Option Value → zW → Prop) : z_st1 (tL_law 458) 458 lv st w nx K Rt = K 458 lv st w := id rfl
theorem sL_law_464 (lv : zL) (st : List Value) (w : zW) (nx K : Nat → zL → List Value → zW → Prop) (Rt : Option Value → zW → Prop) : z_st1 (tL_law 464) 464 lv st w nx K Rt = K 464 lv st w := id rfl
theorem sL_law_470 (lv : zL) (st : List Value) (w : zW) (nx K : Nat → zL → List Value → zW → Prop) (Rt : Option Value → zW → Prop) : z_st1 (tL_law 470) 470 lv st w nx K Rt = K 470 lv st w := id rfl
theorem sL_law_471 (lv : zL) (st : List Value) (w : zW) (nx K : Nat → zL → List Value → zW → Prop) (Rt : Option Value → zW → Prop) : z_st1 (tL_law 471) 471 lv st w nx K Rt = K 471 lv st w := id rfl
theorem sL_law_480 (lv : zL) (st : List Value) (w : zW) (nx K : Nat → zL → List Value → zW → Prop) (Rt : Option Value → zW → Prop) : z_st1 (tL_law 480) 480 lv st w nx K Rt = K 480 lv st w := id rfl
theorem sL_law_484 (lv : zL) (st : List Value) (w : zW) (nx K : Nat → zL → List Value → zW → Prop) (Rt : Option Value → zW → Prop) : z_st1 (tL_law 484) 484 lv st w nx K Rt = K 484 lv st w := id rfl
theorem sL_law_498 (lv : zL) (st : List Value) (w : zW) (nx K : Nat → zL → List Value → zW → Prop) (Rt : Option Value → zW → Prop) : z_st1 (tL_law 498) 498 lv st w nx K Rt = K 498 lv st w := id rfl
theorem sL_law_499 (lv : zL) (st : List Value) (w : zW) (nx K : Nat → zL → List Value → zW → Prop) (Rt : Option Value → zW → Prop) : z_st1 (tL_law 499) 499 lv st w nx K Rt = K 499 lv st w := id rfl
theorem sL_law_508 (lv : zL) (st : List Value) (w : zW) (nx K : Nat → zL → List Value → zW → Prop) (Rt : Option Value → zW → Prop) : z_st1 (tL_law 508) 508 lv st w nx K Rt = K 508 lv st w := id rfl
theorem sL_law_509 (lv : zL) (st : List Value) (w : zW) (nx K : Nat → zL → List Value → zW → Prop) (Rt : Option Value → zW → Prop) : z_st1 (tL_law 509) 509 lv st w nx K Rt = K 509 lv st w := id rfl
theorem sL_law_523 (lv : zL) (st : List Value) (w : zW) (nx K : Nat → zL → List Value → zW → Prop) (Rt : Option Value → zW → Prop) : z_st1 (tL_law 523) 523 lv st w nx K Rt = K 523 lv st w := id rfl
theorem sL_law_533 (lv : zL) (st : List Value) (w : zW) (nx K : Nat → zL → List Value → zW → Prop) (Rt : Option Value → zW → Prop) : z_st1 (tL_law 533) 533 lv st w nx K Rt = K 533 lv st w := id rfl
theorem sL_law_544 (lv : zL) (st : List Value) (w : zW) (nx K : Nat → zL → List Value → zW → Prop) (Rt : Option Value → zW → Prop) : z_st1 (tL_law 544) 544 lv st w nx K Rt = K 544 lv st w := id rfl
theorem sL_law_553 (lv : zL) (st : List Value) (w : zW) (nx K : Nat → zL → List Value → zW → Prop) (Rt : Option Value → zW → Prop) : z_st1 (tL_law 553) 553 lv st w nx K Rt = K 553 lv st w := id rfl
theorem sL_law_559 (lv : zL) (st : List Value) (w : zW) (nx K : Nat → zL → List Value → zW → Prop) (Rt : Option Value → zW → Prop) : z_st1 (tL_law 559) 559 lv st w nx K Rt = K 559 lv st w := id rfl
theorem sL_law_590 (lv : zL) (st : List Value) (w : zW) (nx K : Nat → zL → List Value → zW → Prop) (Rt : Option Value → zW → Prop) : z_st1 (tL_law 590) 590 lv st w nx K Rt = K 590 lv st w := id rfl
theorem sL_law_594 (lv : zL) (st : List Value) (w : zW) (nx K : Nat → zL → List Value → zW → Prop) (Rt : Option Value → zW → Prop) : z_st1 (tL_law 594) 594 lv st w nx K Rt = K 594 lv st w := id rfl
theorem sL_law_608 (lv : zL) (st : List Value) (w : zW) (nx K : Nat → zL → List Value → zW → Prop) (Rt : Option Value → zW → Prop) : z_st1 (tL_law 608) 608 lv st w nx K Rt = K 608 lv st w := id rfl
theorem sL_law_609 (lv : zL) (st : List Value) (w : zW) (nx K : Nat → zL → List Value → zW → Prop) (Rt : Option Value → zW → Prop) : z_st1 (tL_law 609) 609 lv st w nx K Rt = K 609 lv st w := id rfl
theorem sL_law_618 (lv : zL) (st : List Value) (w : zW) (nx K : Nat → zL → List Value → zW → Prop) (Rt : Option Value → zW → Prop) : z_st1 (tL_law 618) 618 lv st w nx K Rt = K 618 lv st w := id rfl
theorem sL_law_619 (lv : zL) (st : List Value) (w : zW) (nx K : Nat → zL → List Value → zW → Prop) (Rt : Option Value → zW → Prop) : z_st1 (tL_law 619) 619 lv st w nx K Rt = K 619 lv st w := id rfl
theorem sL_law_633 (lv : zL) (st : List Value) (w : zW) (nx K : Nat → zL → List Value → zW → Prop) (Rt : Option Value → zW → Prop) : z_st1 (tL_law 633) 633 lv st w nx K Rt = K 633 lv st w := id rfl
theorem sL_law_639 (lv : zL) (st : List Value) (w : zW) (nx K : Nat → zL → List Value → zW → Prop) (Rt : Option Value → zW → Prop) : z_st1 (tL_law 639) 639 lv st w nx K Rt = K 639 lv st w := id rfl
theorem sL_law_640 (lv : zL) (st : List Value) (w : zW) (nx K : Nat → zL → List Value → zW → Prop) (Rt : Option Value → zW → Prop) : z_st1 (tL_law 640) 640 lv st w nx K Rt = K 640 lv st w := id rfl
theorem sL_law_649 (lv : zL) (st : List Value) (w : zW) (nx K : Nat → zL → List Value → zW → Prop) (Rt : Option Value → zW → Prop) : z_st1 (tL_law 649) 649 lv st w nx K Rt = K 649 lv st w := id rfl
theorem sL_law_655 (lv : zL) (st : List Value) (w : zW) (nx K : Nat → zL → List Value → zW → Prop) (Rt : Option Value → zW → Prop) : z_st1 (tL_law 655) 655 lv st w nx K Rt = K 655 lv st w := id rfl
theorem sL_law_656 (lv : zL) (st : List Value) (w : zW) (nx K : Nat → zL → List Value → zW → Prop) (Rt : Option Value → zW → Prop) : z_st1 (tL_law 656) 656 lv st w nx K Rt = K 656 lv st w := id rfl
theorem sL_law_665 (lv : zL) (st : List Value) (w : zW) (nx K : Nat → zL → List Value → zW → Prop) (Rt : Option Value → zW → Prop) : z_st1 (tL_law 665) 665 lv st w nx K Rt = K 665 lv st w := id rfl
theorem sL_law_669 (lv : zL) (st : List Value) (w : zW) (nx K : Nat → zL → List Value → zW → Prop) (Rt : Option Value → zW → Prop) : z_st1 (tL_law 669) 669 lv st w nx K Rt = K 669 lv st w := id rfl
theorem sL_law_683 (lv : zL) (st : List Value) (w : zW) (nx K : Nat → zL → List Value → zW → Prop) (Rt : Option Value → zW → Prop) : z_st1 (tL_law 683) 683 lv st w nx K Rt = K 683 lv st w := id rfl
theorem sL_law_689 (lv : zL) (st : List Value) (w : zW) (nx K : Nat → zL → List Value → zW → Prop) (Rt : Option Value → zW → Prop) : z_st1 (tL_law 689) 689 lv st w nx K Rt = K 689 lv st w := id rfl
theorem sL_law_691 (lv : zL) (st : List Value) (w : zW) (nx K : Nat → zL → List Value → zW → Prop) (Rt : Option Value → zW → Prop) : z_st1 (tL_law 691) 691 lv st w nx K Rt = K 691 lv st w := id rfl
theorem sL_law_702 (lv : zL) (st : List Value) (w : zW) (nx K : Nat → zL → List Value → zW → Prop) (Rt : Option Value → zW → Prop) : z_st1 (tL_law 702) 702 lv st w nx K Rt = K 702 lv st w := id rfl
theorem sL_law_708 (lv : zL) (st : List Value) (w : zW) (nx K : Nat → zL → List Value → zW → Prop) (Rt : Option Value → zW → Prop) : z_st1 (tL_law 708) 708 lv st w nx K Rt = K 708 lv st w := id rfl
theorem sL_law_709 (lv : zL) (st : List Value) (w : zW) (nx K : Nat → zL → List Value → zW → Prop) (Rt : Option Value → zW → Prop) : z_st1 (tL_law 709) 709 lv st w nx K Rt = K 709 lv st w := id rfl
theorem sL_law_715 (lv : zL) (st : List Value) (w : zW) (nx K : Nat → zL → List Value → zW → Prop) (Rt : Option Value → zW → Prop) : z_st1 (tL_law 715) 715 lv st w nx K Rt = K 715 lv st w := id rfl
theorem sL_law_746 (lv : zL) (st : List Value) (w : zW) (nx K : Nat → zL → List Value → zW → Prop) (Rt : Option Value → zW → Prop) : z_st1 (tL_law 746) 746 lv st w nx K Rt = K 746 lv st w := id rfl
theorem sL_law_750 (lv : zL) (st : List Value) (w : zW) (nx K : Nat → zL → List Value → zW → Prop) (Rt : Option Value → zW → Prop) : z_st1 (tL_law 750) 750 lv st w nx K Rt = K 750 lv st w := id rfl
theorem sL_law_764 (lv : zL) (st : List Value) (w : zW) (nx K : Nat → zL → List Value → zW → Prop) (Rt : Option Value → zW → Prop) : z_st1 (tL_law 764) 764 lv st w nx K Rt = K 764 lv st w := id rfl
theorem sL_law_765 (lv : zL) (st : List Value) (w : zW) (nx K : Nat → zL → List Value → zW → Prop) (Rt : Option Value → zW → Prop) : z_st1 (tL_law 765) 765 lv st w nx K Rt = K 765 lv st w := id rfl
theorem sL_law_774 (lv : zL) (st : List Value) (w : zW) (nx K : Nat → zL → List Value → zW → Prop) (Rt : Option Value → zW → Prop) : z_st1 (tL_law 774) 774 lv st w nx K Rt = K 774 lv st w := id rfl
theorem sL_law_775 (lv : zL) (st : List Value) (w : zW) (nx K : Nat → zL → List Value → zW → Prop) (Rt : Option Value → zW → Prop) : z_st1 (tL_law 775) 775 lv st w nx K Rt = K 775 lv st w := id rfl
theorem dL_law_0 : decode cL_law 0 = .ok (.new 8, 3) := by decide +kernel
theorem dL_law_4 : decode cL_law 4 = .ok (.invokespecial 27, 3) := by decide +kernel
theorem dL_law_8 : decode cL_law 8 = .ok (.new 28, 3) := by decide +kernel
theorem dL_law_12 : decode cL_law 12 = .ok (.invokespecial 30, 3) := by decide +kernel
theorem dL_law_17 : decode cL_law 17 = .ok (.newarray .long, 2) := by decide +kernel
theorem dL_law_26 : decode cL_law 26 = .ok (.arraylength, 1) := by decide +kernel
theorem dL_law_35 : decode cL_law 35 = .ok (.iaload, 1) := by decide +kernel
theorem dL_law_39 : decode cL_law 39 = .ok (.tableswitch 744 0 17 #[85, 141, 166, 243, 256, 305, 354, 391, 440, 453, 478, 550, 563, 588, 625, 638, 706, 719], 85) := by decide +kernel
theorem dL_law_130 : decode cL_law 130 = .ok (.iaload, 1) := by decide +kernel
theorem dL_law_132 : decode cL_law 132 = .ok (.invokestatic 31, 3) := by decide +kernel
theorem dL_law_143 : decode cL_law 143 = .ok (.iaload, 1) := by decide +kernel
theorem dL_law_144 : decode cL_law 144 = .ok (.invokevirtual 36, 3) := by decide +kernel
theorem dL_law_150 : decode cL_law 150 = .ok (.invokevirtual 37, 3) := by decide +kernel
theorem dL_law_186 : decode cL_law 186 = .ok (.iaload, 1) := by decide +kernel
theorem dL_law_187 : decode cL_law 187 = .ok (.invokevirtual 41, 3) := by decide +kernel
theorem dL_law_196 : decode cL_law 196 = .ok (.iaload, 1) := by decide +kernel
theorem dL_law_197 : decode cL_law 197 = .ok (.invokevirtual 44, 3) := by decide +kernel
theorem dL_law_211 : decode cL_law 211 = .ok (.iaload, 1) := by decide +kernel
theorem dL_law_217 : decode cL_law 217 = .ok (.iaload, 1) := by decide +kernel
theorem dL_law_223 : decode cL_law 223 = .ok (.iaload, 1) := by decide +kernel
theorem dL_law_229 : decode cL_law 229 = .ok (.iaload, 1) := by decide +kernel
theorem dL_law_238 : decode cL_law 238 = .ok (.invokevirtual 45, 3) := by decide +kernel
theorem dL_law_247 : decode cL_law 247 = .ok (.iaload, 1) := by decide +kernel
theorem dL_law_253 : decode cL_law 253 = .ok (.iaload, 1) := by decide +kernel
theorem dL_law_259 : decode cL_law 259 = .ok (.iaload, 1) := by decide +kernel
theorem dL_law_265 : decode cL_law 265 = .ok (.iaload, 1) := by decide +kernel
theorem dL_law_274 : decode cL_law 274 = .ok (.invokevirtual 49, 3) := by decide +kernel
theorem dL_law_283 : decode cL_law 283 = .ok (.invokevirtual 50, 3) := by decide +kernel
theorem dL_law_287 : decode cL_law 287 = .ok (.invokevirtual 53, 3) := by decide +kernel
theorem dL_law_301 : decode cL_law 301 = .ok (.iaload, 1) := by decide +kernel
theorem dL_law_307 : decode cL_law 307 = .ok (.iaload, 1) := by decide +kernel
theorem dL_law_313 : decode cL_law 313 = .ok (.iaload, 1) := by decide +kernel
theorem dL_law_314 : decode cL_law 314 = .ok (.invokevirtual 54, 3) := by decide +kernel
theorem dL_law_323 : decode cL_law 323 = .ok (.iaload, 1) := by decide +kernel
theorem dL_law_329 : decode cL_law 329 = .ok (.iaload, 1) := by decide +kernel
theorem dL_law_335 : decode cL_law 335 = .ok (.iaload, 1) := by decide +kernel
theorem dL_law_336 : decode cL_law 336 = .ok (.invokevirtual 58, 3) := by decide +kernel
theorem dL_law_350 : decode cL_law 350 = .ok (.iaload, 1) := by decide +kernel
theorem dL_law_356 : decode cL_law 356 = .ok (.iaload, 1) := by decide +kernel
theorem dL_law_362 : decode cL_law 362 = .ok (.iaload, 1) := by decide +kernel
theorem dL_law_363 : decode cL_law 363 = .ok (.invokevirtual 59, 3) := by decide +kernel
theorem dL_law_372 : decode cL_law 372 = .ok (.iaload, 1) := by decide +kernel
theorem dL_law_378 : decode cL_law 378 = .ok (.iaload, 1) := by decide +kernel
theorem dL_law_384 : decode cL_law 384 = .ok (.iaload, 1) := by decide +kernel
theorem dL_law_385 : decode cL_law 385 = .ok (.invokevirtual 62, 3) := by decide +kernel
theorem dL_law_399 : decode cL_law 399 = .ok (.iaload, 1) := by decide +kernel
theorem dL_law_405 : decode cL_law 405 = .ok (.iaload, 1) := by decide +kernel
theorem dL_law_406 : decode cL_law 406 = .ok (.invokevirtual 63, 3) := by decide +kernel
theorem dL_law_415 : decode cL_law 415 = .ok (.iaload, 1) := by decide +kernel
theorem dL_law_421 : decode cL_law 421 = .ok (.iaload, 1) := by decide +kernel
theorem dL_law_422 : decode cL_law 422 = .ok (.invokevirtual 66, 3) := by decide +kernel
theorem dL_law_436 : decode cL_law 436 = .ok (.iaload, 1) := by decide +kernel
theorem dL_law_442 : decode cL_law 442 = .ok (.iaload, 1) := by decide +kernel
theorem dL_law_448 : decode cL_law 448 = .ok (.iaload, 1) := by decide +kernel
theorem dL_law_449 : decode cL_law 449 = .ok (.invokevirtual 67, 3) := by decide +kernel
theorem dL_law_458 : decode cL_law 458 = .ok (.iaload, 1) := by decide +kernel
theorem dL_law_464 : decode cL_law 464 = .ok (.iaload, 1) := by decide +kernel
theorem dL_law_470 : decode cL_law 470 = .ok (.iaload, 1) := by decide +kernel
theorem dL_law_471 : decode cL_law 471 = .ok (.invokevirtual 70, 3) := by decide +kernel
theorem dL_law_480 : decode cL_law 480 = .ok (.invokevirtual 71, 3) := by decide +kernel
theorem dL_law_484 : decode cL_law 484 = .ok (.invokevirtual 74, 3) := by decide +kernel
theorem dL_law_498 : decode cL_law 498 = .ok (.iaload, 1) := by decide +kernel
theorem dL_law_499 : decode cL_law 499 = .ok (.invokevirtual 75, 3) := by decide +kernel
theorem dL_law_508 : decode cL_law 508 = .ok (.iaload, 1) := by decide +kernel
theorem dL_law_509 : decode cL_law 509 = .ok (.invokevirtual 78, 3) := by decide +kernel
theorem dL_law_523 : decode cL_law 523 = .ok (.iaload, 1) := by decide +kernel
theorem dL_law_533 : decode cL_law 533 = .ok (.invokestatic 79, 3) := by decide +kernel
theorem dL_law_544 : decode cL_law 544 = .ok (.iaload, 1) := by decide +kernel
theorem dL_law_553 : decode cL_law 553 = .ok (.invokevirtual 82, 3) := by decide +kernel
theorem dL_law_559 : decode cL_law 559 = .ok (.invokevirtual 37, 3) := by decide +kernel
theorem dL_law_590 : decode cL_law 590 = .ok (.invokevirtual 83, 3) := by decide +kernel
theorem dL_law_594 : decode cL_law 594 = .ok (.invokevirtual 86, 3) := by decide +kernel
theorem dL_law_608 : decode cL_law 608 = .ok (.iaload, 1) := by decide +kernel
theorem dL_law_609 : decode cL_law 609 = .ok (.invokevirtual 87, 3) := by decide +kernel
theorem dL_law_618 : decode cL_law 618 = .ok (.iaload, 1) := by decide +kernel
theorem dL_law_619 : decode cL_law 619 = .ok (.invokevirtual 90, 3) := by decide +kernel
theorem dL_law_633 : decode cL_law 633 = .ok (.iaload, 1) := by decide +kernel
theorem dL_law_639 : decode cL_law 639 = .ok (.iaload, 1) := by decide +kernel
theorem dL_law_640 : decode cL_law 640 = .ok (.invokevirtual 91, 3) := by decide +kernel
theorem dL_law_649 : decode cL_law 649 = .ok (.iaload, 1) := by decide +kernel
theorem dL_law_655 : decode cL_law 655 = .ok (.iaload, 1) := by decide +kernel
theorem dL_law_656 : decode cL_law 656 = .ok (.invokevirtual 94, 3) := by decide +kernel
theorem dL_law_665 : decode cL_law 665 = .ok (.invokevirtual 95, 3) := by decide +kernel
theorem dL_law_669 : decode cL_law 669 = .ok (.invokevirtual 98, 3) := by decide +kernel
theorem dL_law_683 : decode cL_law 683 = .ok (.iaload, 1) := by decide +kernel
theorem dL_law_689 : decode cL_law 689 = .ok (.iaload, 1) := by decide +kernel
theorem dL_law_691 : decode cL_law 691 = .ok (.invokestatic 99, 3) := by decide +kernel
theorem dL_law_702 : decode cL_law 702 = .ok (.iaload, 1) := by decide +kernel
theorem dL_law_708 : decode cL_law 708 = .ok (.iaload, 1) := by decide +kernel
theorem dL_law_709 : decode cL_law 709 = .ok (.invokevirtual 102, 3) := by decide +kernel
theorem dL_law_715 : decode cL_law 715 = .ok (.invokevirtual 37, 3) := by decide +kernel
theorem dL_law_746 : decode cL_law 746 = .ok (.invokevirtual 103, 3) := by decide +kernel
theorem dL_law_750 : decode cL_law 750 = .ok (.invokevirtual 106, 3) := by decide +kernel
theorem dL_law_764 : decode cL_law 764 = .ok (.iaload, 1) := by decide +kernel
theorem dL_law_765 : decode cL_law 765 = .ok (.invokevirtual 107, 3) := by decide +kernel
theorem dL_law_774 : decode cL_law 774 = .ok (.iaload, 1) := by decide +kernel
theorem dL_law_775 : decode cL_law 775 = .ok (.invokevirtual 110, 3) := by decide +kernel
