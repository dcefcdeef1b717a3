def f_M_pass_47 (N : Nat) (k2 : Int32 → Int32 → xSt → xR) (a1 a2 : Int32) (S : xSt) : xR := k2 a1 (a2 + (1 : Int32)) S
def f_M_pass_2 (N : Nat) : Nat → Int32 → Int32 → xSt → xR
  | 0, _, _, _ => none
  | n + 1, a1, a2, S => if a2 < a1 then (xPu S 0 2 ((S 0 2) + (1 : Int32)) fun S1 => (if ((S1 0 2) - (S1 0 2) / (64 : Int32) * (64 : Int32)) = 0 then (xWr S1 4 64 (((S1 0 2) - (S1 0 2) / (4096 : Int32) * (4096 : Int32)) / (64 : Int32)) (S1 0 12) fun S2 => (f_M_pass_47 N (f_M_pass_2 N n) a1 a2 S2)) else (f_M_pass_47 N (f_M_pass_2 N n) a1 a2 S1))) else (some (0, S))
def f_M_pass (N : Nat) (a1 : Int32) (S : xSt) : xR := f_M_pass_2 N N a1 (0 : Int32) S
abbrev rm_M_pass : Room := { frames := 0, cells := 0, slots := 0, locals := 0 }
def f_M_slow_58 (N : Nat) (S : xSt) : xR := some (0, S)
def f_M_slow (N : Nat) (S : xSt) : xR := xV (((S 0 2) - (S 0 2) / (4096 : Int32) * (4096 : Int32)) / (64 : Int32)) fun b1 => (xV ((S 0 2) - (S 0 2) / (64 : Int32) * (64 : Int32)) fun b2 => (if b1 < (16 : Int32) then (f_M_slow_58 N S) else (if b1 < (48 : Int32) then (if b2 < (32 : Int32) then (if (b2 &&& (7 : Int32)) < (6 : Int32) then (xB (f_M_pass N ((6 : Int32) - (b2 &&& (7 : Int32))) S) fun v3 S4 => (f_M_slow_58 N S4)) else (f_M_slow_58 N S)) else (f_M_slow_58 N S)) else (f_M_slow_58 N S))))
abbrev rm_M_slow : Room := { frames := 1, cells := 0, slots := 0, locals := 22 }
def f_M_reach_24 (N : Nat) (a2 : Int32) (S : xSt) : xR := xB (f_M_pass N a2 S) fun v1 S2 => (some (0, S2))
def f_M_reach (N : Nat) (a1 a2 : Int32) (S : xSt) : xR := xV (a1 &&& (4095 : Int32)) fun b1 => (if b1 < (1024 : Int32) then (f_M_reach_24 N a2 S) else (if b1 < (2048 : Int32) then (xB (f_M_slow N S) fun v2 S3 => (f_M_reach_24 N a2 S3)) else (f_M_reach_24 N a2 S)))
abbrev rm_M_reach : Room := { frames := 2, cells := 0, slots := 0, locals := 44 }
def f_M_read (N : Nat) (a1 : Int32) (S : xSt) : xR := xB (f_M_reach N a1 (3 : Int32) S) fun v1 S2 => (xRd S2 1 4096 (a1 &&& (4095 : Int32)) fun v3 => (some (v3, S2)))
abbrev rm_M_read : Room := { frames := 3, cells := 0, slots := 0, locals := 67 }
def f_M_write_32 (N : Nat) (S : xSt) : xR := some (0, S)
def f_M_write (N : Nat) (a1 a2 : Int32) (S : xSt) : xR := xB (f_M_reach N a1 (3 : Int32) S) fun v1 S2 => (if (a1 &&& (4095 : Int32)) < (1024 : Int32) then (f_M_write_32 N S2) else (xWr S2 1 4096 (a1 &&& (4095 : Int32)) (a2 &&& (255 : Int32)) fun S3 => (f_M_write_32 N S3)))
abbrev rm_M_write : Room := { frames := 3, cells := 0, slots := 0, locals := 67 }
def f_M_refresh (N : Nat) (S : xSt) : xR := xRd S 2 26 (17 : Int32) fun v1 => (xRd S 2 26 (17 : Int32) fun v2 => (xWr S 2 26 (17 : Int32) ((v1 &&& (128 : Int32)) ||| ((v2 + (1 : Int32)) &&& (127 : Int32))) fun S3 => (some (0, S3))))
abbrev rm_M_refresh : Room := { frames := 0, cells := 0, slots := 0, locals := 0 }
def f_M_fetch (N : Nat) (S : xSt) : xR := xRd S 2 26 (21 : Int32) fun v1 => (xRd S 1 4096 (v1 &&& (4095 : Int32)) fun v2 => (xRd S 2 26 (21 : Int32) fun v3 => (xB (f_M_reach N v3 (4 : Int32) S) fun v4 S5 => (xRd S5 2 26 (21 : Int32) fun v6 => (xWr S5 2 26 (21 : Int32) ((v6 + (1 : Int32)) &&& (65535 : Int32)) fun S7 => (xB (f_M_refresh N S7) fun v8 S9 => (some (v2, S9))))))))
abbrev rm_M_fetch : Room := { frames := 3, cells := 0, slots := 0, locals := 67 }
def f_M_next (N : Nat) (S : xSt) : xR := xRd S 2 26 (21 : Int32) fun v1 => (xB (f_M_read N v1 S) fun v2 S3 => (xRd S3 2 26 (21 : Int32) fun v4 => (xWr S3 2 26 (21 : Int32) ((v4 + (1 : Int32)) &&& (65535 : Int32)) fun S5 => (some (v2, S5)))))
abbrev rm_M_next : Room := { frames := 4, cells := 0, slots := 0, locals := 88 }
def f_M_signed_15 (N : Nat) (w0 : Int32) (S : xSt) : xR := some (w0, S)
def f_M_signed (N : Nat) (a0 : Int32) (S : xSt) : xR := if (127 : Int32) < a0 then (f_M_signed_15 N (a0 - (256 : Int32)) S) else (f_M_signed_15 N a0 S)
abbrev rm_M_signed : Room := { frames := 0, cells := 0, slots := 0, locals := 0 }
def f_M_twoNext (N : Nat) (S : xSt) : xR := xB (f_M_next N S) fun v1 S2 => (xB (f_M_next N S2) fun v3 S4 => (some ((((256 : Int32) * v3) + v1), S4)))
abbrev rm_M_twoNext : Room := { frames := 5, cells := 0, slots := 0, locals := 109 }
def f_M_two (N : Nat) (a1 : Int32) (S : xSt) : xR := xB (f_M_read N a1 S) fun v1 S2 => (xB (f_M_read N (a1 + (1 : Int32)) S2) fun v3 S4 => (some ((((256 : Int32) * v3) + v1), S4)))
abbrev rm_M_two : Room := { frames := 4, cells := 0, slots := 0, locals := 88 }
def f_M_setTwo (N : Nat) (a1 a2 : Int32) (S : xSt) : xR := xB (f_M_write N a1 a2 S) fun v1 S2 => (xB (f_M_write N (a1 + (1 : Int32)) (a2 >>> ((8 : Int32) &&& 31)) S2) fun v3 S4 => (some (0, S4)))
abbrev rm_M_setTwo : Room := { frames := 4, cells := 0, slots := 0, locals := 89 }
def f_M_pair (N : Nat) (a1 : Int32) (S : xSt) : xR := xRd S 2 26 a1 fun v1 => (xRd S 2 26 (a1 + (1 : Int32)) fun v2 => (some ((((256 : Int32) * v1) + v2), S)))
abbrev rm_M_pair : Room := { frames := 0, cells := 0, slots := 0, locals := 0 }
def f_M_setPair (N : Nat) (a1 a2 : Int32) (S : xSt) : xR := xWr S 2 26 a1 ((a2 >>> ((8 : Int32) &&& 31)) &&& (255 : Int32)) fun S1 => (xWr S1 2 26 (a1 + (1 : Int32)) (a2 &&& (255 : Int32)) fun S2 => (some (0, S2)))
abbrev rm_M_setPair : Room := { frames := 0, cells := 0, slots := 0, locals := 0 }
def f_M_main_25 (N : Nat) (w0 : Int32) (S : xSt) : xR := some (w0, S)
def f_M_main (N : Nat) (S : xSt) : xR := if (S 0 4) = 0 then (xB (f_M_pair N (6 : Int32) S) fun v2 S3 => (f_M_main_25 N v2 S3)) else (xRd S 2 26 (S 0 4) fun v1 => (f_M_main_25 N v1 S))
abbrev rm_M_main : Room := { frames := 1, cells := 0, slots := 0, locals := 21 }
def f_M_setMain_30 (N : Nat) (S : xSt) : xR := some (0, S)
def f_M_setMain (N : Nat) (a1 : Int32) (S : xSt) : xR := if (S 0 4) = 0 then (xB (f_M_setPair N (6 : Int32) a1 S) fun v2 S3 => (f_M_setMain_30 N S3)) else (xWr S 2 26 (S 0 4) (a1 &&& (65535 : Int32)) fun S1 => (f_M_setMain_30 N S1))
abbrev rm_M_setMain : Room := { frames := 1, cells := 0, slots := 0, locals := 22 }
def f_M_w_36 (N : Nat) (w0 : Int32) (S : xSt) : xR := some (w0, S)
def f_M_w (N : Nat) (a1 : Int32) (S : xSt) : xR := if a1 = (3 : Int32) then (xRd S 2 26 (20 : Int32) fun v5 => (f_M_w_36 N v5 S)) else (if a1 = (2 : Int32) then (xB (f_M_main N S) fun v3 S4 => (f_M_w_36 N v3 S4)) else (xB (f_M_pair N ((2 : Int32) + ((2 : Int32) * a1)) S) fun v1 S2 => (f_M_w_36 N v1 S2)))
abbrev rm_M_w : Room := { frames := 2, cells := 0, slots := 0, locals := 41 }
def f_M_setW_42 (N : Nat) (S : xSt) : xR := some (0, S)
def f_M_setW (N : Nat) (a1 a2 : Int32) (S : xSt) : xR := if a1 = (3 : Int32) then (xWr S 2 26 (20 : Int32) (a2 &&& (65535 : Int32)) fun S5 => (f_M_setW_42 N S5)) else (if a1 = (2 : Int32) then (xB (f_M_setMain N a2 S) fun v3 S4 => (f_M_setW_42 N S4)) else (xB (f_M_setPair N ((2 : Int32) + ((2 : Int32) * a1)) a2 S) fun v1 S2 => (f_M_setW_42 N S2)))
abbrev rm_M_setW : Room := { frames := 2, cells := 0, slots := 0, locals := 43 }
def f_M_aim_18 (N : Nat) (w0 : Int32) (S : xSt) : xR := xB (f_M_main N S) fun v1 S2 => (xPu S2 0 6 ((v1 + w0) &&& (65535 : Int32)) fun S3 => (xBo (1 : Int32) (xPu S3 0 5 (1 : Int32) fun S4 => (some (0, S4)))))
def f_M_aim (N : Nat) (S : xSt) : xR := if (S 0 4) = 0 then (f_M_aim_18 N (0 : Int32) S) else (xB (f_M_next N S) fun v1 S2 => (xB (f_M_signed N v1 S2) fun v3 S4 => (f_M_aim_18 N v3 S4)))
abbrev rm_M_aim : Room := { frames := 5, cells := 0, slots := 0, locals := 109 }
def f_M_get_90 (N : Nat) (w1 : Int32) (S : xSt) : xR := xRd S 2 26 w1 fun v1 => (some (v1, S))
def f_M_get_73 (N : Nat) (a1 : Int32) (S : xSt) : xR := if a1 = (7 : Int32) then (f_M_get_90 N (0 : Int32) S) else (f_M_get_90 N (a1 + (2 : Int32)) S)
def f_M_get_72 (N : Nat) (w0 : Int32) (S : xSt) : xR := some (w0, S)
def f_M_get_25 (N : Nat) (a1 : Int32) (S : xSt) : xR := if (S 0 4) = 0 then (f_M_get_73 N a1 S) else (if (S 0 5) = 0 then (if a1 = (4 : Int32) then (xRd S 2 26 (S 0 4) fun v2 => (f_M_get_72 N (v2 >>> ((8 : Int32) &&& 31)) S)) else (xRd S 2 26 (S 0 4) fun v1 => (f_M_get_72 N (v1 &&& (255 : Int32)) S))) else (f_M_get_73 N a1 S))
def f_M_get (N : Nat) (a1 : Int32) (S : xSt) : xR := if a1 = (6 : Int32) then (xB (f_M_read N (S 0 6) S) fun v1 S2 => (some (v1, S2))) else (if a1 = (4 : Int32) then (f_M_get_25 N a1 S) else (if a1 = (5 : Int32) then (f_M_get_25 N a1 S) else (f_M_get_73 N a1 S)))
abbrev rm_M_get : Room := { frames := 4, cells := 0, slots := 0, locals := 88 }
def f_M_put_114 (N : Nat) (S : xSt) : xR := some (0, S)
def f_M_put_112 (N : Nat) (a2 w1 : Int32) (S : xSt) : xR := xWr S 2 26 w1 a2 fun S1 => (f_M_put_114 N S1)
def f_M_put_95 (N : Nat) (a1 a2 : Int32) (S : xSt) : xR := if a1 = (7 : Int32) then (f_M_put_112 N a2 (0 : Int32) S) else (f_M_put_112 N a2 (a1 + (2 : Int32)) S)
def f_M_put_91 (N : Nat) (w1 w2 : Int32) (S : xSt) : xR := xWr S 2 26 w1 w2 fun S1 => (f_M_put_114 N S1)
def f_M_put_28 (N : Nat) (a1 a2 : Int32) (S : xSt) : xR := if (S 0 4) = 0 then (f_M_put_95 N a1 a2 S) else (if (S 0 5) = 0 then (if a1 = (4 : Int32) then (xRd S 2 26 (S 0 4) fun v2 => (f_M_put_91 N (S 0 4) (((256 : Int32) * a2) + (v2 &&& (255 : Int32))) S)) else (xRd S 2 26 (S 0 4) fun v1 => (f_M_put_91 N (S 0 4) ((v1 &&& (65280 : Int32)) + a2) S))) else (f_M_put_95 N a1 a2 S))
def f_M_put (N : Nat) (a1 a2 : Int32) (S : xSt) : xR := if a1 = (6 : Int32) then (xB (f_M_write N (S 0 6) a2 S) fun v1 S2 => (f_M_put_114 N S2)) else (if a1 = (4 : Int32) then (f_M_put_28 N a1 a2 S) else (if a1 = (5 : Int32) then (f_M_put_28 N a1 a2 S) else (f_M_put_95 N a1 a2 S)))
abbrev rm_M_put : Room := { frames := 4, cells := 0, slots := 0, locals := 89 }
def f_M_push (N : Nat) (a1 : Int32) (S : xSt) : xR := xRd S 2 26 (20 : Int32) fun v1 => (xWr S 2 26 (20 : Int32) ((v1 - (1 : Int32)) &&& (65535 : Int32)) fun S2 => (xRd S2 2 26 (20 : Int32) fun v3 => (xB (f_M_write N v3 (a1 >>> ((8 : Int32) &&& 31)) S2) fun v4 S5 => (xRd S5 2 26 (20 : Int32) fun v6 => (xWr S5 2 26 (20 : Int32) ((v6 - (1 : Int32)) &&& (65535 : Int32)) fun S7 => (xRd S7 2 26 (20 : Int32) fun v8 => (xB (f_M_write N v8 a1 S7) fun v9 S10 => (some (0, S10)))))))))
abbrev rm_M_push : Room := { frames := 4, cells := 0, slots := 0, locals := 89 }
def f_M_pop (N : Nat) (S : xSt) : xR := xRd S 2 26 (20 : Int32) fun v1 => (xB (f_M_read N v1 S) fun v2 S3 => (xRd S3 2 26 (20 : Int32) fun v4 => (xWr S3 2 26 (20 : Int32) ((v4 + (1 : Int32)) &&& (65535 : Int32)) fun S5 => (xRd S5 2 26 (20 : Int32) fun v6 => (xB (f_M_read N v6 S5) fun v7 S8 => (xRd S8 2 26 (20 : Int32) fun v9 => (xWr S8 2 26 (20 : Int32) ((v9 + (1 : Int32)) &&& (65535 : Int32)) fun S10 => (some ((((256 : Int32) * v7) + v2), S10)))))))))
abbrev rm_M_pop : Room := { frames := 4, cells := 0, slots := 0, locals := 88 }
def f_M_cond_69 (N : Nat) (w0 : Int32) (S : xSt) : xR := xBo w0 (some (w0, S))
def f_M_cond_61 (N : Nat) (w0 w1 : Int32) (S : xSt) : xR := if w0 = w1 then (f_M_cond_69 N (1 : Int32) S) else (f_M_cond_69 N (0 : Int32) S)
def f_M_cond_49 (N : Nat) (a1 w0 : Int32) (S : xSt) : xR := if (a1 - a1 / (2 : Int32) * (2 : Int32)) = (1 : Int32) then (f_M_cond_61 N w0 (1 : Int32) S) else (f_M_cond_61 N w0 (0 : Int32) S)
def f_M_cond_32 (N : Nat) (a1 w0 : Int32) (S : xSt) : xR := xRd S 2 26 (1 : Int32) fun v1 => (if (v1 &&& w0) = 0 then (f_M_cond_49 N a1 (0 : Int32) S) else (f_M_cond_49 N a1 (1 : Int32) S))
def f_M_cond (N : Nat) (a1 : Int32) (S : xSt) : xR := if a1 < (2 : Int32) then (f_M_cond_32 N a1 (64 : Int32) S) else (if a1 < (4 : Int32) then (f_M_cond_32 N a1 (1 : Int32) S) else (if a1 < (6 : Int32) then (f_M_cond_32 N a1 (4 : Int32) S) else (f_M_cond_32 N a1 (128 : Int32) S)))
abbrev rm_M_cond : Room := { frames := 0, cells := 0, slots := 0, locals := 0 }
def f_M_change (N : Nat) (a1 a2 : Int32) (S : xSt) : xR := xRd S 2 26 a1 fun v1 => (xRd S 2 26 a2 fun v2 => (xWr S 2 26 a1 v2 fun S3 => (xWr S3 2 26 a2 v1 fun S4 => (some (0, S4)))))
abbrev rm_M_change : Room := { frames := 0, cells := 0, slots := 0, locals := 0 }
def f_M_sum_108 (N : Nat) (k14 : Int32 → Int32 → Int32 → Int32 → Int32 → Int32 → xSt → xR) (a1 a2 a4 a5 a6 a7 : Int32) (S : xSt) : xR := k14 a1 a2 a4 a5 a6 (a7 + (1 : Int32)) S
def f_M_sum_105 (N : Nat) (k14 : Int32 → Int32 → Int32 → Int32 → Int32 → Int32 → xSt → xR) (a1 a2 a4 a5 a6 a7 w1 : Int32) (S : xSt) : xR := xBo w1 (xPu S 0 7 w1 fun S1 => (f_M_sum_108 N k14 a1 a2 a4 a5 a6 a7 S1))
def f_M_sum_75 (N : Nat) (k14 : Int32 → Int32 → Int32 → Int32 → Int32 → Int32 → xSt → xR) (a1 a2 a4 a6 a7 a8 w1 : Int32) (S : xSt) : xR := xBo w1 (xPu S 0 9 w1 fun S1 => (xV (a8 >>> ((1 : Int32) &&& 31)) fun b2 => (if a7 = (a4 - (5 : Int32)) then (if b2 = (1 : Int32) then (f_M_sum_105 N k14 a1 a2 a4 b2 a6 a7 (1 : Int32) S1) else (f_M_sum_105 N k14 a1 a2 a4 b2 a6 a7 (0 : Int32) S1)) else (f_M_sum_108 N k14 a1 a2 a4 b2 a6 a7 S1))))
def f_M_sum_74 (N : Nat) (k14 : Int32 → Int32 → Int32 → Int32 → Int32 → Int32 → xSt → xR) (a1 a2 a4 a6 a7 a8 : Int32) (S : xSt) : xR := f_M_sum_75 N k14 a1 a2 a4 a6 a7 a8 (0 : Int32) S
def f_M_sum_126 (N : Nat) (a6 w1 : Int32) (S : xSt) : xR := xBo w1 (xPu S 0 8 w1 fun S1 => (some (a6, S1)))
def f_M_sum_14 (N : Nat) : Nat → Int32 → Int32 → Int32 → Int32 → Int32 → Int32 → xSt → xR
  | 0, _, _, _, _, _, _, _ => none
  | n + 1, a1, a2, a4, a5, a6, a7, S => if a7 < a4 then (xV ((((a1 >>> (a7 &&& 31)) &&& (1 : Int32)) + ((a2 >>> (a7 &&& 31)) &&& (1 : Int32))) + a5) fun b1 => (xV (a6 ||| ((b1 &&& (1 : Int32)) <<< (a7 &&& 31))) fun b2 => (if a7 = (a4 - (1 : Int32)) then (if a5 = (b1 >>> ((1 : Int32) &&& 31)) then (f_M_sum_74 N (f_M_sum_14 N n) a1 a2 a4 b2 a7 b1 S) else (f_M_sum_75 N (f_M_sum_14 N n) a1 a2 a4 b2 a7 b1 (1 : Int32) S)) else (f_M_sum_74 N (f_M_sum_14 N n) a1 a2 a4 b2 a7 b1 S)))) else (if a5 = (1 : Int32) then (f_M_sum_126 N a6 (1 : Int32) S) else (f_M_sum_126 N a6 (0 : Int32) S))
def f_M_sum (N : Nat) (a1 a2 a3 a4 : Int32) (S : xSt) : xR := xBo (0 : Int32) (xPu S 0 9 (0 : Int32) fun S1 => (f_M_sum_14 N N a1 a2 a4 a3 (0 : Int32) (0 : Int32) S1))
abbrev rm_M_sum : Room := { frames := 0, cells := 0, slots := 0, locals := 0 }
def f_M_difference_44 (N : Nat) (a5 w1 : Int32) (S : xSt) : xR := xBo w1 (xPu S 0 8 w1 fun S1 => (some (a5, S1)))
def f_M_difference_28 (N : Nat) (a5 w1 : Int32) (S : xSt) : xR := xBo w1 (xPu S 0 7 w1 fun S1 => (if (S1 0 8) = 0 then (f_M_difference_44 N a5 (1 : Int32) S1) else (f_M_difference_44 N a5 (0 : Int32) S1)))
def f_M_difference (N : Nat) (a1 a2 a3 a4 : Int32) (S : xSt) : xR := xB (f_M_sum N a1 (a2 ^^^ (-1 : Int32)) ((1 : Int32) - a3) a4 S) fun v1 S2 => (if (S2 0 7) = 0 then (f_M_difference_28 N v1 (1 : Int32) S2) else (f_M_difference_28 N v1 (0 : Int32) S2))
abbrev rm_M_difference : Room := { frames := 1, cells := 0, slots := 0, locals := 28 }
def f_M_parity_35 (N : Nat) (w0 : Int32) (S : xSt) : xR := some (w0, S)
def f_M_parity_4 (N : Nat) : Nat → Int32 → Int32 → Int32 → xSt → xR
  | 0, _, _, _, _ => none
  | n + 1, a0, a1, a2, S => if a2 < (8 : Int32) then (xV (a1 + ((a0 >>> (a2 &&& 31)) &&& (1 : Int32))) fun b1 => (f_M_parity_4 N n a0 b1 (a2 + (1 : Int32)) S)) else (if (a1 - a1 / (2 : Int32) * (2 : Int32)) = 0 then (f_M_parity_35 N (4 : Int32) S) else (f_M_parity_35 N (0 : Int32) S))
def f_M_parity (N : Nat) (a0 : Int32) (S : xSt) : xR := f_M_parity_4 N N a0 (0 : Int32) (0 : Int32) S
abbrev rm_M_parity : Room := { frames := 0, cells := 0, slots := 0, locals := 0 }
def f_M_by_15 (N : Nat) (w0 w1 : Int32) (S : xSt) : xR := some ((w0 ||| w1), S)
def f_M_by (N : Nat) (a0 : Int32) (S : xSt) : xR := if a0 = 0 then (f_M_by_15 N (a0 &&& (168 : Int32)) (64 : Int32) S) else (f_M_by_15 N (a0 &&& (168 : Int32)) (0 : Int32) S)
abbrev rm_M_by : Room := { frames := 0, cells := 0, slots := 0, locals := 0 }
def f_M_rest_38 (N : Nat) (a1 w0 w1 : Int32) (S : xSt) : xR := some (((w0 ||| w1) ||| a1), S)
def f_M_rest_25 (N : Nat) (a1 w0 w1 : Int32) (S : xSt) : xR := if (S 0 8) = 0 then (f_M_rest_38 N a1 (w0 ||| w1) (0 : Int32) S) else (f_M_rest_38 N a1 (w0 ||| w1) (1 : Int32) S)
def f_M_rest_13 (N : Nat) (a1 w0 : Int32) (S : xSt) : xR := if (S 0 9) = 0 then (f_M_rest_25 N a1 w0 (0 : Int32) S) else (f_M_rest_25 N a1 w0 (4 : Int32) S)
def f_M_rest (N : Nat) (a1 : Int32) (S : xSt) : xR := if (S 0 7) = 0 then (f_M_rest_13 N a1 (0 : Int32) S) else (f_M_rest_13 N a1 (16 : Int32) S)
abbrev rm_M_rest : Room := { frames := 0, cells := 0, slots := 0, locals := 0 }
def f_M_work_233 (N : Nat) (S : xSt) : xR := some (0, S)
def f_M_work_41 (N : Nat) (w1 w3 w4 w5 : Int32) (S : xSt) : xR := xB (f_M_sum N w3 w4 w5 (8 : Int32) S) fun v1 S2 => (xWr S2 2 26 w1 v1 fun S3 => (xRd S3 2 26 (0 : Int32) fun v4 => (xB (f_M_by N v4 S3) fun v5 S6 => (xB (f_M_rest N (0 : Int32) S6) fun v7 S8 => (xWr S8 2 26 (1 : Int32) (v5 ||| v7) fun S9 => (f_M_work_233 N S9))))))
def f_M_work_161 (N : Nat) (w1 w2 : Int32) (S : xSt) : xR := xWr S 2 26 w1 w2 fun S1 => (f_M_work_233 N S1)
def f_M_work_133 (N : Nat) (a1 a3 a5 w1 w2 w3 : Int32) (S : xSt) : xR := xB (f_M_rest N (2 : Int32) S) fun v1 S2 => (xWr S2 2 26 w1 ((w2 ||| (w3 &&& (40 : Int32))) ||| v1) fun S3 => (if a1 = (7 : Int32) then (f_M_work_161 N (0 : Int32) a3 S3) else (f_M_work_161 N (0 : Int32) a5 S3)))
def f_M_work_101 (N : Nat) (a1 a2 a3 w1 w2 w3 : Int32) (S : xSt) : xR := xB (f_M_difference N w1 w2 w3 (8 : Int32) S) fun v1 S2 => (xB (f_M_by N v1 S2) fun v3 S4 => (if a1 = (7 : Int32) then (f_M_work_133 N a1 a3 v1 (1 : Int32) (v3 &&& (-41 : Int32)) a2 S4) else (f_M_work_133 N a1 a3 v1 (1 : Int32) (v3 &&& (-41 : Int32)) v1 S4)))
def f_M_work_87 (N : Nat) (a1 a2 a3 a4 : Int32) (S : xSt) : xR := if a1 = (3 : Int32) then (f_M_work_101 N a1 a2 a3 a3 a2 a4 S) else (f_M_work_101 N a1 a2 a3 a3 a2 (0 : Int32) S)
def f_M_work_231 (N : Nat) (w1 w2 w3 : Int32) (S : xSt) : xR := xWr S 2 26 w1 (w2 ||| w3) fun S1 => (f_M_work_233 N S1)
def f_M_work_195 (N : Nat) (a1 w1 w2 : Int32) (S : xSt) : xR := xWr S 2 26 w1 w2 fun S1 => (xRd S1 2 26 (0 : Int32) fun v2 => (xB (f_M_by N v2 S1) fun v3 S4 => (xRd S4 2 26 (0 : Int32) fun v5 => (xB (f_M_parity N v5 S4) fun v6 S7 => (if a1 = (4 : Int32) then (f_M_work_231 N (1 : Int32) (v3 ||| v6) (16 : Int32) S7) else (f_M_work_231 N (1 : Int32) (v3 ||| v6) (0 : Int32) S7))))))
def f_M_work (N : Nat) (a1 a2 : Int32) (S : xSt) : xR := xRd S 2 26 (0 : Int32) fun v1 => (xRd S 2 26 (1 : Int32) fun v2 => (xV (v2 &&& (1 : Int32)) fun b3 => (if a1 < (2 : Int32) then (if a1 = (1 : Int32) then (f_M_work_41 N (0 : Int32) v1 a2 b3 S) else (f_M_work_41 N (0 : Int32) v1 a2 (0 : Int32) S)) else (if a1 = (2 : Int32) then (f_M_work_87 N a1 a2 v1 b3 S) else (if a1 = (3 : Int32) then (f_M_work_87 N a1 a2 v1 b3 S) else (if a1 = (7 : Int32) then (f_M_work_87 N a1 a2 v1 b3 S) else (if a1 = (4 : Int32) then (f_M_work_195 N a1 (0 : Int32) (v1 &&& a2) S) else (if a1 = (5 : Int32) then (f_M_work_195 N a1 (0 : Int32) (v1 ^^^ a2) S) else (f_M_work_195 N a1 (0 : Int32) (v1 ||| a2) S)))))))))
abbrev rm_M_work : Room := { frames := 2, cells := 0, slots := 0, locals := 53 }
def f_M_step1_56 (N : Nat) (a3 a4 w1 w2 w4 : Int32) (S : xSt) : xR := xB (f_M_rest N w4 S) fun v1 S2 => (xWr S2 2 26 w1 ((w2 ||| (v1 &&& (-2 : Int32))) ||| a3) fun S3 => (some (a4, S3)))
def f_M_step1_34 (N : Nat) (a2 a3 w0 : Int32) (S : xSt) : xR := xB (f_M_by N w0 S) fun v1 S2 => (if a2 = 0 then (f_M_step1_56 N a3 w0 (1 : Int32) v1 (2 : Int32) S2) else (f_M_step1_56 N a3 w0 (1 : Int32) v1 (0 : Int32) S2))
def f_M_step1 (N : Nat) (a1 a2 : Int32) (S : xSt) : xR := xRd S 2 26 (1 : Int32) fun v1 => (xV (v1 &&& (1 : Int32)) fun b2 => (if a2 = 0 then (xB (f_M_difference N a1 (1 : Int32) (0 : Int32) (8 : Int32) S) fun v3 S4 => (f_M_step1_34 N a2 b2 v3 S4)) else (xB (f_M_sum N a1 (1 : Int32) (0 : Int32) (8 : Int32) S) fun v5 S6 => (f_M_step1_34 N a2 b2 v5 S6))))
abbrev rm_M_step1 : Room := { frames := 2, cells := 0, slots := 0, locals := 53 }
def f_M_turn_97 (N : Nat) (w0 w1 : Int32) (S : xSt) : xR := some ((w0 ||| w1), S)
def f_M_turn_137 (N : Nat) (w0 w1 : Int32) (S : xSt) : xR := some ((w0 ||| (w1 <<< ((7 : Int32) &&& 31))), S)
def f_M_turn_51 (N : Nat) (a1 a2 a3 a4 w1 : Int32) (S : xSt) : xR := xPu S 0 10 w1 fun S1 => (if a3 = 0 then (if a1 = (1 : Int32) then (f_M_turn_137 N (a2 >>> ((1 : Int32) &&& 31)) (S1 0 10) S1) else (if a1 = (3 : Int32) then (f_M_turn_137 N (a2 >>> ((1 : Int32) &&& 31)) a4 S1) else (if a1 = (5 : Int32) then (f_M_turn_137 N (a2 >>> ((1 : Int32) &&& 31)) (a2 >>> ((7 : Int32) &&& 31)) S1) else (f_M_turn_137 N (a2 >>> ((1 : Int32) &&& 31)) (0 : Int32) S1)))) else (if a1 = 0 then (f_M_turn_97 N ((a2 <<< ((1 : Int32) &&& 31)) &&& (255 : Int32)) (S1 0 10) S1) else (if a1 = (2 : Int32) then (f_M_turn_97 N ((a2 <<< ((1 : Int32) &&& 31)) &&& (255 : Int32)) a4 S1) else (if a1 = (6 : Int32) then (f_M_turn_97 N ((a2 <<< ((1 : Int32) &&& 31)) &&& (255 : Int32)) (1 : Int32) S1) else (f_M_turn_97 N ((a2 <<< ((1 : Int32) &&& 31)) &&& (255 : Int32)) (0 : Int32) S1)))))
def f_M_turn_25 (N : Nat) (a1 a2 w0 : Int32) (S : xSt) : xR := xRd S 2 26 (1 : Int32) fun v1 => (xV (v1 &&& (1 : Int32)) fun b2 => (if w0 = 0 then (f_M_turn_51 N a1 a2 w0 b2 (a2 &&& (1 : Int32)) S) else (f_M_turn_51 N a1 a2 w0 b2 (a2 >>> ((7 : Int32) &&& 31)) S)))
def f_M_turn_20 (N : Nat) (a1 a2 : Int32) (S : xSt) : xR := f_M_turn_25 N a1 a2 (1 : Int32) S
def f_M_turn (N : Nat) (a1 a2 : Int32) (S : xSt) : xR := if a1 = 0 then (f_M_turn_20 N a1 a2 S) else (if a1 = (2 : Int32) then (f_M_turn_20 N a1 a2 S) else (if a1 = (4 : Int32) then (f_M_turn_20 N a1 a2 S) else (if a1 = (6 : Int32) then (f_M_turn_20 N a1 a2 S) else (f_M_turn_25 N a1 a2 (0 : Int32) S))))
abbrev rm_M_turn : Room := { frames := 0, cells := 0, slots := 0, locals := 0 }
def f_M_turned (N : Nat) (a1 a2 : Int32) (S : xSt) : xR := xB (f_M_turn N a1 a2 S) fun v1 S2 => (xB (f_M_by N v1 S2) fun v3 S4 => (xB (f_M_parity N v1 S4) fun v5 S6 => (xWr S6 2 26 (1 : Int32) ((v3 ||| v5) ||| (S6 0 10)) fun S7 => (some (v1, S7)))))
abbrev rm_M_turned : Room := { frames := 1, cells := 0, slots := 0, locals := 24 }
def f_M_bit_64 (N : Nat) (w1 w2 w3 : Int32) (S : xSt) : xR := xWr S 2 26 w1 (w2 ||| w3) fun S1 => (some (0, S1))
def f_M_bit_63 (N : Nat) (w1 w2 : Int32) (S : xSt) : xR := f_M_bit_64 N w1 w2 (0 : Int32) S
def f_M_bit_46 (N : Nat) (a1 a3 w1 w2 w3 : Int32) (S : xSt) : xR := if a3 = 0 then (f_M_bit_63 N w1 (w2 ||| w3) S) else (if a1 = (7 : Int32) then (f_M_bit_64 N w1 (w2 ||| w3) (128 : Int32) S) else (f_M_bit_63 N w1 (w2 ||| w3) S))
def f_M_bit_14 (N : Nat) (a1 a2 w0 : Int32) (S : xSt) : xR := xRd S 2 26 (1 : Int32) fun v1 => (if w0 = 0 then (f_M_bit_46 N a1 w0 (1 : Int32) (((v1 &&& (1 : Int32)) ||| (16 : Int32)) ||| (a2 &&& (40 : Int32))) (68 : Int32) S) else (f_M_bit_46 N a1 w0 (1 : Int32) (((v1 &&& (1 : Int32)) ||| (16 : Int32)) ||| (a2 &&& (40 : Int32))) (0 : Int32) S))
def f_M_bit (N : Nat) (a1 a2 : Int32) (S : xSt) : xR := if ((a2 >>> (a1 &&& 31)) &&& (1 : Int32)) = (1 : Int32) then (f_M_bit_14 N a1 a2 (1 : Int32) S) else (f_M_bit_14 N a1 a2 (0 : Int32) S)
abbrev rm_M_bit : Room := { frames := 0, cells := 0, slots := 0, locals := 0 }
def f_M_adjust_146 (N : Nat) (w1 w2 w3 : Int32) (S : xSt) : xR := xWr S 2 26 w1 (w2 ||| w3) fun S1 => (some (0, S1))
def f_M_adjust_91 (N : Nat) (a1 a2 a4 w1 w2 : Int32) (S : xSt) : xR := xWr S 2 26 w1 (w2 &&& (255 : Int32)) fun S1 => (xRd S1 2 26 (0 : Int32) fun v2 => (xB (f_M_by N v2 S1) fun v3 S4 => (xRd S4 2 26 (0 : Int32) fun v5 => (xB (f_M_parity N v5 S4) fun v6 S7 => (xRd S7 2 26 (0 : Int32) fun v8 => (if a4 = 0 then (f_M_adjust_146 N (1 : Int32) (((v3 ||| v6) ||| ((a1 ^^^ v8) &&& (16 : Int32))) ||| (a2 &&& (2 : Int32))) (0 : Int32) S7) else (f_M_adjust_146 N (1 : Int32) (((v3 ||| v6) ||| ((a1 ^^^ v8) &&& (16 : Int32))) ||| (a2 &&& (2 : Int32))) (1 : Int32) S7)))))))
def f_M_adjust_70 (N : Nat) (a1 a2 a4 w0 : Int32) (S : xSt) : xR := if (a2 &&& (2 : Int32)) = 0 then (f_M_adjust_91 N a1 a2 a4 (0 : Int32) (a1 + w0) S) else (f_M_adjust_91 N a1 a2 a4 (0 : Int32) (a1 - w0) S)
def f_M_adjust_55 (N : Nat) (a1 a2 a3 w0 : Int32) (S : xSt) : xR := if w0 = 0 then (f_M_adjust_70 N a1 a2 w0 a3 S) else (f_M_adjust_70 N a1 a2 w0 (a3 + (96 : Int32)) S)
def f_M_adjust_50 (N : Nat) (a1 a2 a3 : Int32) (S : xSt) : xR := f_M_adjust_55 N a1 a2 a3 (1 : Int32) S
def f_M_adjust_36 (N : Nat) (a1 a2 w0 : Int32) (S : xSt) : xR := if (a2 &&& (1 : Int32)) = 0 then (if (153 : Int32) < a1 then (f_M_adjust_50 N a1 a2 w0 S) else (f_M_adjust_55 N a1 a2 w0 (0 : Int32) S)) else (f_M_adjust_50 N a1 a2 w0 S)
def f_M_adjust_30 (N : Nat) (a1 a2 : Int32) (S : xSt) : xR := f_M_adjust_36 N a1 a2 (6 : Int32) S
def f_M_adjust (N : Nat) (S : xSt) : xR := xRd S 2 26 (0 : Int32) fun v1 => (xRd S 2 26 (1 : Int32) fun v2 => (if (v2 &&& (16 : Int32)) = 0 then (if (9 : Int32) < (v1 &&& (15 : Int32)) then (f_M_adjust_30 N v1 v2 S) else (f_M_adjust_36 N v1 v2 (0 : Int32) S)) else (f_M_adjust_30 N v1 v2 S)))
abbrev rm_M_adjust : Room := { frames := 1, cells := 0, slots := 0, locals := 22 }
def f_M_single_167 (N : Nat) (S : xSt) : xR := some (0, S)
def f_M_single_165 (N : Nat) (w1 w2 w3 : Int32) (S : xSt) : xR := xWr S 2 26 w1 (w2 ||| w3) fun S1 => (f_M_single_167 N S1)
def f_M_single (N : Nat) (a1 : Int32) (S : xSt) : xR := xRd S 2 26 (1 : Int32) fun v1 => (if a1 < (4 : Int32) then (xRd S 2 26 (0 : Int32) fun v10 => (xB (f_M_turn N a1 v10 S) fun v11 S12 => (xWr S12 2 26 (0 : Int32) v11 fun S13 => (xRd S13 2 26 (0 : Int32) fun v14 => (xWr S13 2 26 (1 : Int32) (((v1 &&& (196 : Int32)) ||| (v14 &&& (40 : Int32))) ||| (S13 0 10)) fun S15 => (f_M_single_167 N S15)))))) else (if a1 = (4 : Int32) then (xB (f_M_adjust N S) fun v8 S9 => (f_M_single_167 N S9)) else (if a1 = (5 : Int32) then (xRd S 2 26 (0 : Int32) fun v4 => (xWr S 2 26 (0 : Int32) ((255 : Int32) - v4) fun S5 => (xRd S5 2 26 (0 : Int32) fun v6 => (xWr S5 2 26 (1 : Int32) ((((v1 &&& (197 : Int32)) ||| (v6 &&& (40 : Int32))) ||| (16 : Int32)) ||| (2 : Int32)) fun S7 => (f_M_single_167 N S7))))) else (xV (v1 &&& (1 : Int32)) fun b2 => (xRd S 2 26 (0 : Int32) fun v3 => (if a1 = (6 : Int32) then (f_M_single_165 N (1 : Int32) ((v1 &&& (196 : Int32)) ||| (v3 &&& (40 : Int32))) (1 : Int32) S) else (if b2 = (1 : Int32) then (f_M_single_165 N (1 : Int32) ((v1 &&& (196 : Int32)) ||| (v3 &&& (40 : Int32))) (16 : Int32) S) else (f_M_single_165 N (1 : Int32) ((v1 &&& (196 : Int32)) ||| (v3 &&& (40 : Int32))) (1 : Int32) S))))))))
abbrev rm_M_single : Room := { frames := 2, cells := 0, slots := 0, locals := 46 }
def f_M_over_42 (N : Nat) (a2 : Int32) (S : xSt) : xR := some (a2, S)
def f_M_over_7 (N : Nat) : Nat → Int32 → Int32 → Int32 → xSt → xR
  | 0, _, _, _, _ => none
  | n + 1, a1, a2, a3, S => if a2 < (S 0 16) then (xRd S 5 40 a2 fun v1 => (if a1 < (a3 + v1) then (f_M_over_42 N a2 S) else (xRd S 5 40 a2 fun v2 => (xV (a3 + v2) fun b3 => (f_M_over_7 N n a1 (a2 + (1 : Int32)) b3 S))))) else (f_M_over_42 N a2 S)
def f_M_over (N : Nat) (a1 : Int32) (S : xSt) : xR := xV (S 0 19) fun b1 => (f_M_over_7 N N a1 (0 : Int32) b1 S)
abbrev rm_M_over : Room := { frames := 0, cells := 0, slots := 0, locals := 0 }
def f_M_play_39 (N : Nat) (S : xSt) : xR := some (0, S)
def f_M_play_36 (N : Nat) (w1 : Int32) (S : xSt) : xR := xBo w1 (xPu S 0 18 w1 fun S1 => (f_M_play_39 N S1))
def f_M_play (N : Nat) (S : xSt) : xR := if (S 0 18) = 0 then (f_M_play_39 N S) else (xB (f_M_over N (S 0 2) S) fun v1 S2 => (xPu S2 0 20 v1 fun S3 => (if (S3 0 20) < (S3 0 16) then (f_M_play_36 N (1 : Int32) S3) else (f_M_play_36 N (0 : Int32) S3))))
abbrev rm_M_play : Room := { frames := 1, cells := 0, slots := 0, locals := 23 }
def f_M_input_101 (N : Nat) (k47 : Int32 → Int32 → Int32 → xSt → xR) (k58 : Int32 → Int32 → Int32 → Int32 → Int32 → xSt → xR) (a1 a2 a3 a5 w0 : Int32) (S : xSt) : xR := k58 a1 a2 a3 w0 (a5 + (1 : Int32)) S
def f_M_input_96 (N : Nat) (k47 : Int32 → Int32 → Int32 → xSt → xR) (k58 : Int32 → Int32 → Int32 → Int32 → Int32 → xSt → xR) (a1 a2 a3 a5 : Int32) (S : xSt) : xR := f_M_input_101 N k47 k58 a1 a2 a3 a5 (1 : Int32) S
def f_M_input_100 (N : Nat) (k47 : Int32 → Int32 → Int32 → xSt → xR) (k58 : Int32 → Int32 → Int32 → Int32 → Int32 → xSt → xR) (a1 a2 a3 a5 : Int32) (S : xSt) : xR := f_M_input_101 N k47 k58 a1 a2 a3 a5 (0 : Int32) S
def f_M_input_122 (N : Nat) (k47 : Int32 → Int32 → Int32 → xSt → xR) (a1 a3 w0 w1 : Int32) (S : xSt) : xR := xV (w0 + w1) fun b1 => (k47 a1 b1 (a3 + (1 : Int32)) S)
def f_M_input_58 (N : Nat) (k47 : Int32 → Int32 → Int32 → xSt → xR) : Nat → Int32 → Int32 → Int32 → Int32 → Int32 → xSt → xR
  | 0, _, _, _, _, _, _ => none
  | n + 1, a1, a2, a3, a4, a5, S => if a5 < (8 : Int32) then (if a4 = 0 then (if ((a1 >>> (((8 : Int32) + a5) &&& 31)) &&& (1 : Int32)) = 0 then (xRd S 3 40 (((5 : Int32) * a5) + a3) fun v1 => (if v1 = 0 then (f_M_input_100 N k47 (f_M_input_58 N k47 n) a1 a2 a3 a5 S) else (f_M_input_96 N k47 (f_M_input_58 N k47 n) a1 a2 a3 a5 S))) else (f_M_input_100 N k47 (f_M_input_58 N k47 n) a1 a2 a3 a5 S)) else (f_M_input_96 N k47 (f_M_input_58 N k47 n) a1 a2 a3 a5 S)) else (if a4 = 0 then (f_M_input_122 N k47 a1 a3 a2 ((1 : Int32) <<< (a3 &&& 31)) S) else (f_M_input_122 N k47 a1 a3 a2 (0 : Int32) S))
def f_M_input_47 (N : Nat) : Nat → Int32 → Int32 → Int32 → xSt → xR
  | 0, _, _, _, _ => none
  | n + 1, a1, a2, a3, S => if a3 < (5 : Int32) then (f_M_input_58 N (f_M_input_47 N n) N a1 a2 a3 (0 : Int32) (0 : Int32) S) else (xB (f_M_pass N (4 : Int32) S) fun v1 S2 => (some (a2, S2)))
def f_M_input_43 (N : Nat) (a1 w0 w1 : Int32) (S : xSt) : xR := xV (w0 + w1) fun b1 => (f_M_input_47 N N a1 b1 (0 : Int32) S)
def f_M_input (N : Nat) (a1 : Int32) (S : xSt) : xR := if (a1 - a1 / (2 : Int32) * (2 : Int32)) = (1 : Int32) then (xB (f_M_pass N (4 : Int32) S) fun v5 S6 => (some ((255 : Int32), S6))) else (xB (f_M_slow N S) fun v1 S2 => (xB (f_M_play N S2) fun v3 S4 => (if ((S4 0 20) - (S4 0 20) / (2 : Int32) * (2 : Int32)) = (1 : Int32) then (f_M_input_43 N a1 (160 : Int32) (64 : Int32) S4) else (f_M_input_43 N a1 (160 : Int32) (0 : Int32) S4))))
abbrev rm_M_input : Room := { frames := 2, cells := 0, slots := 0, locals := 44 }
def f_M_output_95 (N : Nat) (S : xSt) : xR := some (0, S)
def f_M_output_52 (N : Nat) (a2 w1 w2 : Int32) (S : xSt) : xR := xPu S 0 14 (w1 + w2) fun S1 => (xPu S1 0 13 ((a2 >>> ((4 : Int32) &&& 31)) &&& (1 : Int32)) fun S2 => (if ((S2 0 2) - (S2 0 2) / (64 : Int32) * (64 : Int32)) = 0 then (xWr S2 4 64 (((S2 0 2) - (S2 0 2) / (4096 : Int32) * (4096 : Int32)) / (64 : Int32)) (S2 0 12) fun S3 => (f_M_output_95 N S3)) else (f_M_output_95 N S2)))
def f_M_output (N : Nat) (a1 a2 : Int32) (S : xSt) : xR := if (a1 - a1 / (2 : Int32) * (2 : Int32)) = (1 : Int32) then (xB (f_M_pass N (4 : Int32) S) fun v6 S7 => (some (0, S7))) else (xB (f_M_slow N S) fun v1 S2 => (xB (f_M_pass N (4 : Int32) S2) fun v3 S4 => (xPu S4 0 12 (a2 &&& (7 : Int32)) fun S5 => (if ((a2 >>> ((4 : Int32) &&& 31)) &&& (1 : Int32)) = (S5 0 13) then (f_M_output_52 N a2 (S5 0 14) (0 : Int32) S5) else (f_M_output_52 N a2 (S5 0 14) (1 : Int32) S5)))))
abbrev rm_M_output : Room := { frames := 2, cells := 0, slots := 0, locals := 44 }
def f_M_interrupt_85 (N : Nat) (w1 w2 : Int32) (S : xSt) : xR := xWr S 2 26 w1 w2 fun S1 => (some (0, S1))
def f_M_interrupt (N : Nat) (S : xSt) : xR := xWr S 2 26 (25 : Int32) (0 : Int32) fun S1 => (xWr S1 2 26 (22 : Int32) (0 : Int32) fun S2 => (xWr S2 2 26 (23 : Int32) (0 : Int32) fun S3 => (xB (f_M_refresh N S3) fun v4 S5 => (xB (f_M_pass N (4 : Int32) S5) fun v6 S7 => (xRd S7 2 26 (21 : Int32) fun v8 => (xB (f_M_push N v8 S7) fun v9 S10 => (xRd S10 2 26 (24 : Int32) fun v11 => (if v11 = (2 : Int32) then (xRd S10 2 26 (16 : Int32) fun v12 => (xB (f_M_two N (((256 : Int32) * v12) + (255 : Int32)) S10) fun v13 S14 => (f_M_interrupt_85 N (21 : Int32) v13 S14))) else (f_M_interrupt_85 N (21 : Int32) (56 : Int32) S10)))))))))
abbrev rm_M_interrupt : Room := { frames := 5, cells := 0, slots := 0, locals := 111 }
def f_M_move_293 (N : Nat) (S : xSt) : xR := some (0, S)
def f_M_move_251 (N : Nat) (a1 a6 a7 a8 w1 w2 w3 : Int32) (S : xSt) : xR := xWr S 2 26 w1 ((w2 ||| w3) ||| (a6 &&& (8 : Int32))) fun S1 => (if (5 : Int32) < a1 then (if a8 = 0 then (f_M_move_293 N S1) else (if a7 = 0 then (xRd S1 2 26 (21 : Int32) fun v2 => (xWr S1 2 26 (21 : Int32) ((v2 - (2 : Int32)) &&& (65535 : Int32)) fun S3 => (f_M_move_293 N S3))) else (f_M_move_293 N S1))) else (f_M_move_293 N S1))
def f_M_move_237 (N : Nat) (a1 a6 a7 a8 w1 w2 w3 : Int32) (S : xSt) : xR := if (a6 &&& (2 : Int32)) = 0 then (f_M_move_251 N a1 a6 a7 a8 w1 (w2 ||| w3) (0 : Int32) S) else (f_M_move_251 N a1 a6 a7 a8 w1 (w2 ||| w3) (32 : Int32) S)
def f_M_move_218 (N : Nat) (a1 a5 a6 a7 w0 : Int32) (S : xSt) : xR := if w0 = 0 then (f_M_move_237 N a1 a6 a7 w0 (1 : Int32) a5 (0 : Int32) S) else (f_M_move_237 N a1 a6 a7 w0 (1 : Int32) a5 (4 : Int32) S)
def f_M_move_179 (N : Nat) (a1 a3 a5 a6 a7 : Int32) (S : xSt) : xR := xB (f_M_pair N (6 : Int32) S) fun v1 S2 => (xB (f_M_setPair N (6 : Int32) (v1 + a3) S2) fun v3 S4 => (xB (f_M_pair N (2 : Int32) S4) fun v5 S6 => (xB (f_M_setPair N (2 : Int32) (v5 - (1 : Int32)) S6) fun v7 S8 => (xB (f_M_pair N (2 : Int32) S8) fun v9 S10 => (if v9 = 0 then (f_M_move_218 N a1 a5 a6 a7 (0 : Int32) S10) else (f_M_move_218 N a1 a5 a6 a7 (1 : Int32) S10))))))
def f_M_move_136 (N : Nat) (a1 a3 a5 a7 w0 : Int32) (S : xSt) : xR := f_M_move_179 N a1 a3 a5 w0 a7 S
def f_M_move_116 (N : Nat) (a1 a3 a6 a7 w0 w1 w2 : Int32) (S : xSt) : xR := xV (w0 ||| (w1 ||| w2)) fun b1 => (if (S 0 7) = 0 then (f_M_move_136 N a1 a3 b1 a7 a6 S) else (f_M_move_136 N a1 a3 b1 a7 (a6 - (1 : Int32)) S))
def f_M_move_100 (N : Nat) (a1 a3 a6 a7 w0 w1 w2 : Int32) (S : xSt) : xR := if (S 0 7) = 0 then (f_M_move_116 N a1 a3 a6 a7 w0 ((w1 ||| w2) ||| (2 : Int32)) (0 : Int32) S) else (f_M_move_116 N a1 a3 a6 a7 w0 ((w1 ||| w2) ||| (2 : Int32)) (16 : Int32) S)
def f_M_move_79 (N : Nat) (a1 a3 a5 a6 w0 : Int32) (S : xSt) : xR := if w0 = 0 then (f_M_move_100 N a1 a3 a6 w0 a5 (a6 &&& (128 : Int32)) (0 : Int32) S) else (f_M_move_100 N a1 a3 a6 w0 a5 (a6 &&& (128 : Int32)) (64 : Int32) S)
def f_M_move_11 (N : Nat) (a1 a2 w0 : Int32) (S : xSt) : xR := xB (f_M_pair N (6 : Int32) S) fun v1 S2 => (xB (f_M_read N v1 S2) fun v3 S4 => (xRd S4 2 26 (1 : Int32) fun v5 => (xV (v5 &&& (1 : Int32)) fun b6 => (xRd S4 2 26 (0 : Int32) fun v7 => (xV (v7 + v3) fun b8 => (if a2 = 0 then (xB (f_M_pair N (4 : Int32) S4) fun v9 S10 => (xB (f_M_write N v9 v3 S10) fun v11 S12 => (xB (f_M_pair N (4 : Int32) S12) fun v13 S14 => (xB (f_M_setPair N (4 : Int32) (v13 + w0) S14) fun v15 S16 => (xRd S16 2 26 (1 : Int32) fun v17 => (xV (b6 ||| (v17 &&& (192 : Int32))) fun b18 => (f_M_move_179 N a1 w0 b18 b8 (0 : Int32) S16))))))) else (xRd S4 2 26 (0 : Int32) fun v19 => (xB (f_M_difference N v19 v3 (0 : Int32) (8 : Int32) S4) fun v20 S21 => (if v20 = 0 then (f_M_move_79 N a1 w0 b6 v20 (1 : Int32) S21) else (f_M_move_79 N a1 w0 b6 v20 (0 : Int32) S21))))))))))
def f_M_move (N : Nat) (a1 a2 : Int32) (S : xSt) : xR := if (a1 - a1 / (2 : Int32) * (2 : Int32)) = 0 then (f_M_move_11 N a1 a2 (1 : Int32) S) else (f_M_move_11 N a1 a2 (-1 : Int32) S)
abbrev rm_M_move : Room := { frames := 4, cells := 0, slots := 0, locals := 89 }
def f_M_special_213 (N : Nat) (S : xSt) : xR := some (0, S)
def f_M_special_82 (N : Nat) (w1 w2 w3 : Int32) (S : xSt) : xR := xWr S 2 26 w1 (w2 ||| w3) fun S1 => (f_M_special_213 N S1)
def f_M_special_177 (N : Nat) (w1 w2 w3 : Int32) (S : xSt) : xR := xWr S 2 26 w1 (w2 ||| w3) fun S1 => (xRd S1 2 26 (1 : Int32) fun v2 => (xRd S1 2 26 (0 : Int32) fun v3 => (xB (f_M_by N v3 S1) fun v4 S5 => (xRd S5 2 26 (0 : Int32) fun v6 => (xB (f_M_parity N v6 S5) fun v7 S8 => (xWr S8 2 26 (1 : Int32) (((v2 &&& (1 : Int32)) ||| v4) ||| v7) fun S9 => (f_M_special_213 N S9)))))))
def f_M_special_149 (N : Nat) (a1 a2 a3 w1 w2 : Int32) (S : xSt) : xR := xB (f_M_write N w1 w2 S) fun v1 S2 => (if a1 = (4 : Int32) then (f_M_special_177 N (0 : Int32) (a2 &&& (240 : Int32)) (a3 &&& (15 : Int32)) S2) else (f_M_special_177 N (0 : Int32) (a2 &&& (240 : Int32)) (a3 >>> ((4 : Int32) &&& 31)) S2))
def f_M_special (N : Nat) (a1 : Int32) (S : xSt) : xR := if a1 < (2 : Int32) then (xRd S 2 26 (0 : Int32) fun v15 => (xWr S 2 26 ((16 : Int32) + a1) v15 fun S16 => (f_M_special_213 N S16))) else (if a1 < (4 : Int32) then (xRd S 2 26 ((14 : Int32) + a1) fun v8 => (xWr S 2 26 (0 : Int32) v8 fun S9 => (xRd S9 2 26 (1 : Int32) fun v10 => (xRd S9 2 26 (0 : Int32) fun v11 => (xB (f_M_by N v11 S9) fun v12 S13 => (xRd S13 2 26 (23 : Int32) fun v14 => (if v14 = (1 : Int32) then (f_M_special_82 N (1 : Int32) ((v10 &&& (1 : Int32)) ||| v12) (4 : Int32) S13) else (f_M_special_82 N (1 : Int32) ((v10 &&& (1 : Int32)) ||| v12) (0 : Int32) S13)))))))) else (if a1 < (6 : Int32) then (xRd S 2 26 (0 : Int32) fun v1 => (xB (f_M_pair N (6 : Int32) S) fun v2 S3 => (xB (f_M_read N v2 S3) fun v4 S5 => (xB (f_M_pair N (6 : Int32) S5) fun v6 S7 => (if a1 = (4 : Int32) then (f_M_special_149 N a1 v1 v4 v6 (((16 : Int32) * (v1 &&& (15 : Int32))) + (v4 >>> ((4 : Int32) &&& 31))) S7) else (f_M_special_149 N a1 v1 v4 v6 (((16 : Int32) * (v4 &&& (15 : Int32))) + (v1 &&& (15 : Int32))) S7)))))) else (f_M_special_213 N S)))
abbrev rm_M_special : Room := { frames := 4, cells := 0, slots := 0, locals := 89 }
def f_M_more_426 (N : Nat) (S : xSt) : xR := some (0, S)
def f_M_more_101 (N : Nat) (a6 : Int32) (S : xSt) : xR := xRd S 2 26 (1 : Int32) fun v1 => (xB (f_M_by N a6 S) fun v2 S3 => (xB (f_M_parity N a6 S3) fun v4 S5 => (xWr S5 2 26 (1 : Int32) (((v1 &&& (1 : Int32)) ||| v2) ||| v4) fun S6 => (f_M_more_426 N S6))))
def f_M_more_156 (N : Nat) (w1 w2 : Int32) (S : xSt) : xR := xB (f_M_output N w1 w2 S) fun v1 S2 => (f_M_more_426 N S2)
def f_M_more_272 (N : Nat) (w1 w2 w4 : Int32) (S : xSt) : xR := xB (f_M_rest N w4 S) fun v1 S2 => (xWr S2 2 26 w1 (w2 ||| v1) fun S3 => (f_M_more_426 N S3))
def f_M_more_260 (N : Nat) (a5 w1 w2 w3 : Int32) (S : xSt) : xR := if a5 = 0 then (f_M_more_272 N w1 (w2 ||| w3) (2 : Int32) S) else (f_M_more_272 N w1 (w2 ||| w3) (0 : Int32) S)
def f_M_more_225 (N : Nat) (a5 w0 : Int32) (S : xSt) : xR := xB (f_M_setPair N (6 : Int32) w0 S) fun v1 S2 => (if w0 = 0 then (f_M_more_260 N a5 (1 : Int32) ((w0 >>> ((8 : Int32) &&& 31)) &&& (168 : Int32)) (64 : Int32) S2) else (f_M_more_260 N a5 (1 : Int32) ((w0 >>> ((8 : Int32) &&& 31)) &&& (168 : Int32)) (0 : Int32) S2))
def f_M_more_323 (N : Nat) (S : xSt) : xR := f_M_more_426 N S
def f_M_more_417 (N : Nat) (w1 w2 : Int32) (S : xSt) : xR := xWr S 2 26 w1 w2 fun S1 => (f_M_more_426 N S1)
def f_M_more_71 (N : Nat) (a2 a3 a4 w0 : Int32) (S : xSt) : xR := if a3 = 0 then (xB (f_M_pair N (2 : Int32) S) fun v40 S41 => (xB (f_M_input N v40 S41) fun v42 S43 => (if a2 = (6 : Int32) then (f_M_more_101 N v42 S43) else (xB (f_M_put N a2 v42 S43) fun v44 S45 => (f_M_more_101 N v42 S45))))) else (if a3 = (1 : Int32) then (xB (f_M_pair N (2 : Int32) S) fun v36 S37 => (if a2 = (6 : Int32) then (f_M_more_156 N v36 (0 : Int32) S37) else (xB (f_M_get N a2 S37) fun v38 S39 => (f_M_more_156 N v36 v38 S39)))) else (if a3 = (2 : Int32) then (xRd S 2 26 (1 : Int32) fun v22 => (xV (v22 &&& (1 : Int32)) fun b23 => (if w0 = 0 then (xB (f_M_pair N (6 : Int32) S) fun v24 S25 => (xB (f_M_w N a4 S25) fun v26 S27 => (xB (f_M_difference N v24 v26 b23 (16 : Int32) S27) fun v28 S29 => (f_M_more_225 N w0 v28 S29)))) else (xB (f_M_pair N (6 : Int32) S) fun v30 S31 => (xB (f_M_w N a4 S31) fun v32 S33 => (xB (f_M_sum N v30 v32 b23 (16 : Int32) S33) fun v34 S35 => (f_M_more_225 N w0 v34 S35))))))) else (if a3 = (3 : Int32) then (xB (f_M_twoNext N S) fun v12 S13 => (if w0 = 0 then (xB (f_M_w N a4 S13) fun v14 S15 => (xB (f_M_setTwo N v12 v14 S15) fun v16 S17 => (f_M_more_323 N S17))) else (xB (f_M_two N v12 S13) fun v18 S19 => (xB (f_M_setW N a4 v18 S19) fun v20 S21 => (f_M_more_323 N S21))))) else (if a3 = (4 : Int32) then (xRd S 2 26 (0 : Int32) fun v8 => (xWr S 2 26 (0 : Int32) (0 : Int32) fun S9 => (xB (f_M_work N (2 : Int32) v8 S9) fun v10 S11 => (f_M_more_426 N S11)))) else (if a3 = (5 : Int32) then (xB (f_M_pop N S) fun v3 S4 => (xWr S4 2 26 (21 : Int32) v3 fun S5 => (xRd S5 2 26 (23 : Int32) fun v6 => (xWr S5 2 26 (22 : Int32) v6 fun S7 => (f_M_more_426 N S7))))) else (if a3 = (6 : Int32) then (if (a2 &&& (3 : Int32)) < (2 : Int32) then (f_M_more_417 N (24 : Int32) (0 : Int32) S) else (f_M_more_417 N (24 : Int32) ((a2 &&& (3 : Int32)) - (1 : Int32)) S)) else (xB (f_M_special N a2 S) fun v1 S2 => (f_M_more_426 N S2))))))))
def f_M_more_45 (N : Nat) (a1 a2 a3 : Int32) (S : xSt) : xR := if (a1 >>> ((6 : Int32) &&& 31)) = (1 : Int32) then (xV (a2 >>> ((1 : Int32) &&& 31)) fun b1 => (if (a2 - a2 / (2 : Int32) * (2 : Int32)) = (1 : Int32) then (f_M_more_71 N a2 a3 b1 (1 : Int32) S) else (f_M_more_71 N a2 a3 b1 (0 : Int32) S))) else (some (0, S))
def f_M_more_42 (N : Nat) (a1 a2 a3 w1 w2 : Int32) (S : xSt) : xR := xB (f_M_move N w1 w2 S) fun v1 S2 => (f_M_more_45 N a1 a2 a3 S2)
def f_M_more (N : Nat) (a1 : Int32) (S : xSt) : xR := xV ((a1 >>> ((3 : Int32) &&& 31)) &&& (7 : Int32)) fun b1 => (xV (a1 &&& (7 : Int32)) fun b2 => (if (a1 >>> ((6 : Int32) &&& 31)) = (2 : Int32) then (if (3 : Int32) < b1 then (if b2 < (2 : Int32) then (if b2 = (1 : Int32) then (f_M_more_42 N a1 b1 b2 b1 (1 : Int32) S) else (f_M_more_42 N a1 b1 b2 b1 (0 : Int32) S)) else (f_M_more_45 N a1 b1 b2 S)) else (f_M_more_45 N a1 b1 b2 S)) else (f_M_more_45 N a1 b1 b2 S)))
abbrev rm_M_more : Room := { frames := 6, cells := 0, slots := 0, locals := 131 }
def f_M_rotation_173 (N : Nat) (S : xSt) : xR := some (0, S)
def f_M_rotation_165 (N : Nat) (a4 a6 : Int32) (S : xSt) : xR := xB (f_M_put N a4 a6 S) fun v1 S2 => (f_M_rotation_173 N S2)
def f_M_rotation_151 (N : Nat) (a4 a6 : Int32) (S : xSt) : xR := if (S 0 4) = 0 then (f_M_rotation_165 N a4 a6 S) else (if a4 = (6 : Int32) then (f_M_rotation_173 N S) else (f_M_rotation_165 N a4 a6 S))
def f_M_rotation_134 (N : Nat) (a4 w0 : Int32) (S : xSt) : xR := if (S 0 4) = 0 then (f_M_rotation_151 N a4 w0 S) else (xB (f_M_put N (6 : Int32) w0 S) fun v1 S2 => (f_M_rotation_151 N a4 w0 S2))
def f_M_rotation_80 (N : Nat) (a2 a3 a4 w1 : Int32) (S : xSt) : xR := xB (f_M_get N w1 S) fun v1 S2 => (if a2 = (1 : Int32) then (xB (f_M_bit N a3 v1 S2) fun v5 S6 => (some (0, S6))) else (if a2 = 0 then (xB (f_M_turned N a3 v1 S2) fun v3 S4 => (f_M_rotation_134 N a4 v3 S4)) else (if a2 = (2 : Int32) then (f_M_rotation_134 N a4 (v1 &&& (((1 : Int32) <<< (a3 &&& 31)) ^^^ (-1 : Int32))) S2) else (f_M_rotation_134 N a4 (v1 ||| ((1 : Int32) <<< (a3 &&& 31))) S2))))
def f_M_rotation_65 (N : Nat) (a2 a3 a4 : Int32) (S : xSt) : xR := if (S 0 4) = 0 then (f_M_rotation_80 N a2 a3 a4 a4 S) else (f_M_rotation_80 N a2 a3 a4 (6 : Int32) S)
def f_M_rotation_29 (N : Nat) (w0 : Int32) (S : xSt) : xR := xV (w0 >>> ((6 : Int32) &&& 31)) fun b1 => (xV ((w0 >>> ((3 : Int32) &&& 31)) &&& (7 : Int32)) fun b2 => (xV (w0 &&& (7 : Int32)) fun b3 => (if (S 0 4) = 0 then (xB (f_M_pair N (6 : Int32) S) fun v4 S5 => (xPu S5 0 6 v4 fun S6 => (f_M_rotation_65 N b1 b2 b3 S6))) else (f_M_rotation_65 N b1 b2 b3 S))))
def f_M_rotation_11 (N : Nat) (S : xSt) : xR := if (S 0 4) = 0 then (xB (f_M_fetch N S) fun v1 S2 => (f_M_rotation_29 N v1 S2)) else (xB (f_M_next N S) fun v3 S4 => (f_M_rotation_29 N v3 S4))
def f_M_rotation (N : Nat) (S : xSt) : xR := if (S 0 4) = 0 then (f_M_rotation_11 N S) else (xB (f_M_aim N S) fun v1 S2 => (f_M_rotation_11 N S2))
abbrev rm_M_rotation : Room := { frames := 6, cells := 0, slots := 0, locals := 130 }
def f_M_jump_107 (N : Nat) (S : xSt) : xR := some (0, S)
def f_M_jump_88 (N : Nat) (a2 : Int32) (S : xSt) : xR := xRd S 2 26 (21 : Int32) fun v1 => (xWr S 2 26 (21 : Int32) ((v1 + a2) &&& (65535 : Int32)) fun S2 => (f_M_jump_107 N S2))
def f_M_jump_48 (N : Nat) (a1 : Int32) (S : xSt) : xR := xB (f_M_next N S) fun v1 S2 => (xB (f_M_signed N v1 S2) fun v3 S4 => (if a1 = (2 : Int32) then (xRd S4 2 26 (2 : Int32) fun v7 => (if v7 = 0 then (f_M_jump_107 N S4) else (f_M_jump_88 N v3 S4))) else (if a1 = (3 : Int32) then (f_M_jump_88 N v3 S4) else (xB (f_M_cond N (a1 - (4 : Int32)) S4) fun v5 S6 => (if v5 = 0 then (f_M_jump_107 N S6) else (f_M_jump_88 N v3 S6))))))
def f_M_jump (N : Nat) (a1 : Int32) (S : xSt) : xR := if a1 = 0 then (some (0, S)) else (if a1 = (1 : Int32) then (xB (f_M_change N (0 : Int32) (8 : Int32) S) fun v3 S4 => (xB (f_M_change N (1 : Int32) (9 : Int32) S4) fun v5 S6 => (some (0, S6)))) else (if a1 = (2 : Int32) then (xRd S 2 26 (2 : Int32) fun v1 => (xWr S 2 26 (2 : Int32) ((v1 - (1 : Int32)) &&& (255 : Int32)) fun S2 => (f_M_jump_48 N a1 S2))) else (f_M_jump_48 N a1 S)))
abbrev rm_M_jump : Room := { frames := 5, cells := 0, slots := 0, locals := 109 }
def f_M_add (N : Nat) (a1 : Int32) (S : xSt) : xR := xB (f_M_main N S) fun v1 S2 => (xB (f_M_sum N v1 a1 (0 : Int32) (16 : Int32) S2) fun v3 S4 => (xB (f_M_setMain N v3 S4) fun v5 S6 => (xRd S6 2 26 (1 : Int32) fun v7 => (xB (f_M_rest N (0 : Int32) S6) fun v8 S9 => (xWr S9 2 26 (1 : Int32) (((v7 &&& (196 : Int32)) ||| ((v3 >>> ((8 : Int32) &&& 31)) &&& (40 : Int32))) ||| (v8 &&& (-5 : Int32))) fun S10 => (some (0, S10)))))))
abbrev rm_M_add : Room := { frames := 2, cells := 0, slots := 0, locals := 43 }
def f_M_store_50 (N : Nat) (S : xSt) : xR := some (0, S)
def f_M_store_123 (N : Nat) (S : xSt) : xR := some (0, S)
def f_M_store_77 (N : Nat) (a1 a2 a3 : Int32) (S : xSt) : xR := if a1 = (2 : Int32) then (xB (f_M_main N S) fun v7 S8 => (xB (f_M_setTwo N a3 v7 S8) fun v9 S10 => (f_M_store_123 N S10))) else (if a2 = 0 then (xRd S 2 26 (0 : Int32) fun v1 => (xB (f_M_write N a3 v1 S) fun v2 S3 => (f_M_store_123 N S3))) else (xB (f_M_read N a3 S) fun v4 S5 => (xWr S5 2 26 (0 : Int32) v4 fun S6 => (f_M_store_123 N S6))))
def f_M_store (N : Nat) (a1 a2 : Int32) (S : xSt) : xR := if a1 < (2 : Int32) then (if a2 = 0 then (xB (f_M_pair N ((2 : Int32) + ((2 : Int32) * a1)) S) fun v7 S8 => (xRd S8 2 26 (0 : Int32) fun v9 => (xB (f_M_write N v7 v9 S8) fun v10 S11 => (f_M_store_50 N S11)))) else (xB (f_M_pair N ((2 : Int32) + ((2 : Int32) * a1)) S) fun v12 S13 => (xB (f_M_read N v12 S13) fun v14 S15 => (xWr S15 2 26 (0 : Int32) v14 fun S16 => (f_M_store_50 N S16))))) else (xB (f_M_twoNext N S) fun v1 S2 => (if a1 = (2 : Int32) then (if a2 = 0 then (f_M_store_77 N a1 a2 v1 S2) else (xB (f_M_two N v1 S2) fun v3 S4 => (xB (f_M_setMain N v3 S4) fun v5 S6 => (f_M_store_123 N S6)))) else (f_M_store_77 N a1 a2 v1 S2)))
abbrev rm_M_store : Room := { frames := 6, cells := 0, slots := 0, locals := 131 }
def f_M_first_175 (N : Nat) (S : xSt) : xR := some (0, S)
def f_M_first_108 (N : Nat) (w1 w2 : Int32) (S : xSt) : xR := xB (f_M_setW N w1 w2 S) fun v1 S2 => (f_M_first_175 N S2)
def f_M_first_172 (N : Nat) (w1 w2 : Int32) (S : xSt) : xR := xB (f_M_put N w1 w2 S) fun v1 S2 => (f_M_first_175 N S2)
def f_M_first_169 (N : Nat) (w1 w3 w4 : Int32) (S : xSt) : xR := xB (f_M_step1 N w3 w4 S) fun v1 S2 => (f_M_first_172 N w1 v1 S2)
def f_M_first_138 (N : Nat) (a1 a2 : Int32) (S : xSt) : xR := if a2 = (6 : Int32) then (xB (f_M_next N S) fun v3 S4 => (f_M_first_172 N a1 v3 S4)) else (xB (f_M_get N a1 S) fun v1 S2 => (if a2 = (4 : Int32) then (f_M_first_169 N a1 v1 (1 : Int32) S2) else (f_M_first_169 N a1 v1 (0 : Int32) S2)))
def f_M_first_16 (N : Nat) (a1 a2 a3 w0 : Int32) (S : xSt) : xR := if a2 = 0 then (xB (f_M_jump N a1 S) fun v19 S20 => (f_M_first_175 N S20)) else (if a2 = (1 : Int32) then (if w0 = 0 then (xB (f_M_twoNext N S) fun v11 S12 => (xB (f_M_setW N a3 v11 S12) fun v13 S14 => (f_M_first_175 N S14))) else (xB (f_M_w N a3 S) fun v15 S16 => (xB (f_M_add N v15 S16) fun v17 S18 => (f_M_first_175 N S18)))) else (if a2 = (2 : Int32) then (xB (f_M_store N a3 w0 S) fun v9 S10 => (f_M_first_175 N S10)) else (if a2 = (3 : Int32) then (if w0 = 0 then (xB (f_M_w N a3 S) fun v5 S6 => (f_M_first_108 N a3 (v5 + (1 : Int32)) S6)) else (xB (f_M_w N a3 S) fun v7 S8 => (f_M_first_108 N a3 (v7 - (1 : Int32)) S8))) else (if a2 = (7 : Int32) then (xB (f_M_single N a1 S) fun v3 S4 => (f_M_first_175 N S4)) else (if a1 = (6 : Int32) then (xB (f_M_aim N S) fun v1 S2 => (f_M_first_138 N a1 a2 S2)) else (f_M_first_138 N a1 a2 S))))))
def f_M_first (N : Nat) (a1 a2 : Int32) (S : xSt) : xR := xV (a1 >>> ((1 : Int32) &&& 31)) fun b1 => (if (a1 - a1 / (2 : Int32) * (2 : Int32)) = (1 : Int32) then (f_M_first_16 N a1 a2 b1 (1 : Int32) S) else (f_M_first_16 N a1 a2 b1 (0 : Int32) S))
abbrev rm_M_first : Room := { frames := 7, cells := 0, slots := 0, locals := 154 }
def f_M_third_176 (N : Nat) (S : xSt) : xR := some (0, S)
def f_M_third_74 (N : Nat) (S : xSt) : xR := f_M_third_176 N S
def f_M_third_28 (N : Nat) (a1 : Int32) (S : xSt) : xR := xRd S 2 26 (0 : Int32) fun v1 => (xB (f_M_next N S) fun v2 S3 => (xV (((256 : Int32) * v1) + v2) fun b4 => (if a1 = (2 : Int32) then (xRd S3 2 26 (0 : Int32) fun v8 => (xB (f_M_output N b4 v8 S3) fun v9 S10 => (f_M_third_74 N S10))) else (xB (f_M_input N b4 S3) fun v5 S6 => (xWr S6 2 26 (0 : Int32) v5 fun S7 => (f_M_third_74 N S7))))))
def f_M_third_173 (N : Nat) (w1 : Int32) (S : xSt) : xR := xBo w1 (xPu S 0 3 w1 fun S1 => (f_M_third_176 N S1))
def f_M_third (N : Nat) (a1 : Int32) (S : xSt) : xR := if a1 = 0 then (xB (f_M_twoNext N S) fun v17 S18 => (xWr S18 2 26 (21 : Int32) v17 fun S19 => (f_M_third_176 N S19))) else (if a1 = (2 : Int32) then (f_M_third_28 N a1 S) else (if a1 = (3 : Int32) then (f_M_third_28 N a1 S) else (if a1 = (4 : Int32) then (xRd S 2 26 (20 : Int32) fun v7 => (xB (f_M_two N v7 S) fun v8 S9 => (xRd S9 2 26 (20 : Int32) fun v10 => (xB (f_M_main N S9) fun v11 S12 => (xB (f_M_setTwo N v10 v11 S12) fun v13 S14 => (xB (f_M_setMain N v8 S14) fun v15 S16 => (f_M_third_176 N S16))))))) else (if a1 = (5 : Int32) then (xB (f_M_change N (4 : Int32) (6 : Int32) S) fun v3 S4 => (xB (f_M_change N (5 : Int32) (7 : Int32) S4) fun v5 S6 => (f_M_third_176 N S6))) else (xWr S 2 26 (22 : Int32) (a1 - (6 : Int32)) fun S1 => (xWr S1 2 26 (23 : Int32) (a1 - (6 : Int32)) fun S2 => (if a1 = (7 : Int32) then (f_M_third_173 N (1 : Int32) S2) else (f_M_third_173 N (0 : Int32) S2))))))))
abbrev rm_M_third : Room := { frames := 6, cells := 0, slots := 0, locals := 131 }
def f_M_odd_79 (N : Nat) (S : xSt) : xR := some (0, S)
def f_M_odd_25 (N : Nat) : Nat → Int32 → xSt → xR
  | 0, _, _ => none
  | n + 1, a2, S => if a2 < (8 : Int32) then (xB (f_M_change N a2 (a2 + (8 : Int32)) S) fun v1 S2 => (f_M_odd_25 N n (a2 + (1 : Int32)) S2)) else (f_M_odd_79 N S)
def f_M_odd (N : Nat) (a1 : Int32) (S : xSt) : xR := if a1 = 0 then (xB (f_M_pop N S) fun v7 S8 => (xWr S8 2 26 (21 : Int32) v7 fun S9 => (f_M_odd_79 N S9))) else (if a1 = (1 : Int32) then (f_M_odd_25 N N (2 : Int32) S) else (if a1 = (2 : Int32) then (xB (f_M_main N S) fun v4 S5 => (xWr S5 2 26 (21 : Int32) v4 fun S6 => (f_M_odd_79 N S6))) else (xB (f_M_main N S) fun v1 S2 => (xWr S2 2 26 (20 : Int32) v1 fun S3 => (f_M_odd_79 N S3)))))
abbrev rm_M_odd : Room := { frames := 5, cells := 0, slots := 0, locals := 110 }
def f_M_last_258 (N : Nat) (S : xSt) : xR := some (0, S)
def f_M_last_134 (N : Nat) (w1 w2 : Int32) (S : xSt) : xR := xWr S 2 26 w1 w2 fun S1 => (f_M_last_258 N S1)
def f_M_last_111 (N : Nat) (a5 a6 : Int32) (S : xSt) : xR := if a6 = 0 then (xRd S 2 26 (21 : Int32) fun v1 => (f_M_last_134 N (21 : Int32) v1 S)) else (f_M_last_134 N (21 : Int32) a5 S)
def f_M_last_88 (N : Nat) (a2 a5 w0 : Int32) (S : xSt) : xR := if w0 = 0 then (f_M_last_111 N a5 w0 S) else (if a2 = (2 : Int32) then (f_M_last_111 N a5 w0 S) else (xRd S 2 26 (21 : Int32) fun v1 => (xB (f_M_push N v1 S) fun v2 S3 => (f_M_last_111 N a5 w0 S3))))
def f_M_last_83 (N : Nat) (a2 a5 : Int32) (S : xSt) : xR := f_M_last_88 N a2 a5 (1 : Int32) S
def f_M_last_64 (N : Nat) (a1 a2 : Int32) (S : xSt) : xR := xB (f_M_twoNext N S) fun v1 S2 => (if a2 = (5 : Int32) then (f_M_last_83 N a2 v1 S2) else (xB (f_M_cond N a1 S2) fun v3 S4 => (if v3 = 0 then (f_M_last_88 N a2 v1 (0 : Int32) S4) else (f_M_last_83 N a2 v1 S4))))
def f_M_last_211 (N : Nat) (w1 : Int32) (S : xSt) : xR := xB (f_M_push N w1 S) fun v1 S2 => (f_M_last_258 N S2)
def f_M_last_250 (N : Nat) (S : xSt) : xR := f_M_last_258 N S
def f_M_last_138 (N : Nat) (a1 a2 a3 a4 : Int32) (S : xSt) : xR := if a2 = (6 : Int32) then (xB (f_M_next N S) fun v17 S18 => (xB (f_M_work N a1 v17 S18) fun v19 S20 => (f_M_last_258 N S20))) else (if a2 = (7 : Int32) then (xRd S 2 26 (21 : Int32) fun v13 => (xB (f_M_push N v13 S) fun v14 S15 => (xWr S15 2 26 (21 : Int32) ((8 : Int32) * a1) fun S16 => (f_M_last_258 N S16)))) else (if a2 = (5 : Int32) then (if a3 = (3 : Int32) then (xB (f_M_pair N (0 : Int32) S) fun v11 S12 => (f_M_last_211 N v11 S12)) else (xB (f_M_w N a3 S) fun v9 S10 => (f_M_last_211 N v9 S10))) else (if a4 = 0 then (xB (f_M_pop N S) fun v3 S4 => (if a3 = (3 : Int32) then (xB (f_M_setPair N (0 : Int32) v3 S4) fun v7 S8 => (f_M_last_250 N S8)) else (xB (f_M_setW N a3 v3 S4) fun v5 S6 => (f_M_last_250 N S6)))) else (xB (f_M_odd N a3 S) fun v1 S2 => (f_M_last_258 N S2)))))
def f_M_last_16 (N : Nat) (a1 a2 a3 w0 : Int32) (S : xSt) : xR := if a2 = 0 then (xB (f_M_cond N a1 S) fun v1 S2 => (if v1 = 0 then (f_M_last_258 N S2) else (xB (f_M_pop N S2) fun v3 S4 => (xWr S4 2 26 (21 : Int32) v3 fun S5 => (f_M_last_258 N S5))))) else (if a2 = (2 : Int32) then (f_M_last_64 N a1 a2 S) else (if a2 = (4 : Int32) then (f_M_last_64 N a1 a2 S) else (if a2 = (5 : Int32) then (if w0 = 0 then (f_M_last_138 N a1 a2 a3 w0 S) else (f_M_last_64 N a1 a2 S)) else (f_M_last_138 N a1 a2 a3 w0 S))))
def f_M_last (N : Nat) (a1 a2 : Int32) (S : xSt) : xR := xV (a1 >>> ((1 : Int32) &&& 31)) fun b1 => (if (a1 - a1 / (2 : Int32) * (2 : Int32)) = (1 : Int32) then (f_M_last_16 N a1 a2 b1 (1 : Int32) S) else (f_M_last_16 N a1 a2 b1 (0 : Int32) S))
abbrev rm_M_last : Room := { frames := 6, cells := 0, slots := 0, locals := 132 }
def f_M_perform_134 (N : Nat) (S : xSt) : xR := some (0, S)
def f_M_perform_69 (N : Nat) (a3 a4 : Int32) (S : xSt) : xR := xB (f_M_get N a4 S) fun v1 S2 => (xB (f_M_put N a3 v1 S2) fun v3 S4 => (f_M_perform_134 N S4))
def f_M_perform_65 (N : Nat) (a3 a4 : Int32) (S : xSt) : xR := xB (f_M_aim N S) fun v1 S2 => (f_M_perform_69 N a3 a4 S2)
def f_M_perform_99 (N : Nat) (a3 a4 : Int32) (S : xSt) : xR := xB (f_M_get N a4 S) fun v1 S2 => (xB (f_M_work N a3 v1 S2) fun v3 S4 => (f_M_perform_134 N S4))
def f_M_perform (N : Nat) (a1 : Int32) (S : xSt) : xR := xV (a1 >>> ((6 : Int32) &&& 31)) fun b1 => (xV ((a1 >>> ((3 : Int32) &&& 31)) &&& (7 : Int32)) fun b2 => (xV (a1 &&& (7 : Int32)) fun b3 => (if b1 = 0 then (xB (f_M_first N b2 b3 S) fun v11 S12 => (f_M_perform_134 N S12)) else (if b1 = (1 : Int32) then (if a1 = (118 : Int32) then (xWr S 2 26 (25 : Int32) (1 : Int32) fun S10 => (some (0, S10))) else (if b2 = (6 : Int32) then (f_M_perform_65 N b2 b3 S) else (if b3 = (6 : Int32) then (f_M_perform_65 N b2 b3 S) else (f_M_perform_69 N b2 b3 S)))) else (if b1 = (2 : Int32) then (if b3 = (6 : Int32) then (xB (f_M_aim N S) fun v8 S9 => (f_M_perform_99 N b2 b3 S9)) else (f_M_perform_99 N b2 b3 S)) else (if b3 = (3 : Int32) then (xB (f_M_third N b2 S) fun v6 S7 => (f_M_perform_134 N S7)) else (xB (f_M_last N b2 b3 S) fun v4 S5 => (f_M_perform_134 N S5))))))))
abbrev rm_M_perform : Room := { frames := 8, cells := 0, slots := 0, locals := 178 }
def f_M_one_124 (N : Nat) (k86 : Int32 → Int32 → xSt → xR) (a2 w1 : Int32) (S : xSt) : xR := xPu S 0 4 w1 fun S1 => (xB (f_M_fetch N S1) fun v2 S3 => (k86 v2 a2 S3))
def f_M_one_100 (N : Nat) (k86 : Int32 → Int32 → xSt → xR) (a1 a2 : Int32) (S : xSt) : xR := if (a2 + (1 : Int32)) = (4 : Int32) then (some (0, S)) else (if a1 = (221 : Int32) then (f_M_one_124 N k86 (a2 + (1 : Int32)) (18 : Int32) S) else (f_M_one_124 N k86 (a2 + (1 : Int32)) (19 : Int32) S))
def f_M_one_177 (N : Nat) (S : xSt) : xR := some (0, S)
def f_M_one_86 (N : Nat) : Nat → Int32 → Int32 → xSt → xR
  | 0, _, _, _ => none
  | n + 1, a1, a2, S => if a1 = (221 : Int32) then (f_M_one_100 N (f_M_one_86 N n) a1 a2 S) else (if a1 = (253 : Int32) then (f_M_one_100 N (f_M_one_86 N n) a1 a2 S) else (if a1 = (237 : Int32) then (xPu S 0 4 (0 : Int32) fun S5 => (xB (f_M_fetch N S5) fun v6 S7 => (xB (f_M_more N v6 S7) fun v8 S9 => (f_M_one_177 N S9)))) else (if a1 = (203 : Int32) then (xB (f_M_rotation N S) fun v3 S4 => (f_M_one_177 N S4)) else (xB (f_M_perform N a1 S) fun v1 S2 => (f_M_one_177 N S2)))))
def f_M_one_46 (N : Nat) (S : xSt) : xR := xBo (0 : Int32) (xPu S 0 3 (0 : Int32) fun S1 => (xRd S1 2 26 (25 : Int32) fun v2 => (if v2 = (1 : Int32) then (xRd S1 2 26 (21 : Int32) fun v5 => (xB (f_M_reach N v5 (4 : Int32) S1) fun v6 S7 => (xB (f_M_refresh N S7) fun v8 S9 => (some (0, S9))))) else (xB (f_M_fetch N S1) fun v3 S4 => (f_M_one_86 N N v3 (0 : Int32) S4)))))
def f_M_one (N : Nat) (S : xSt) : xR := xPu S 0 4 (0 : Int32) fun S1 => (xBo (0 : Int32) (xPu S1 0 5 (0 : Int32) fun S2 => (xRd S2 2 26 (22 : Int32) fun v3 => (if v3 = (1 : Int32) then (if ((S2 0 2) - (S2 0 2) / (4096 : Int32) * (4096 : Int32)) < (32 : Int32) then (if (S2 0 3) = 0 then (xB (f_M_interrupt N S2) fun v4 S5 => (some (0, S5))) else (f_M_one_46 N S2)) else (f_M_one_46 N S2)) else (f_M_one_46 N S2)))))
abbrev rm_M_one : Room := { frames := 9, cells := 0, slots := 0, locals := 202 }
def f_M_poke (N : Nat) (a1 a2 : Int32) (S : xSt) : xR := xWr S 1 4096 (a1 &&& (4095 : Int32)) (a2 &&& (255 : Int32)) fun S1 => (some (0, S1))
abbrev rm_M_poke : Room := { frames := 0, cells := 0, slots := 0, locals := 0 }
def f_M_load_10 (N : Nat) (S : xSt) : xR := xBo (0 : Int32) (some ((0 : Int32), S))
def f_M_load_15 (N : Nat) : Nat → Int32 → Int32 → Int32 → Int32 → xSt → xR
  | 0, _, _, _, _, _ => none
  | n + 1, a1, a2, a3, a4, S => if a4 < a3 then (xWr S 1 4096 ((a1 + a4) &&& (4095 : Int32)) ((a2 >>> (((24 : Int32) - ((8 : Int32) * a4)) &&& 31)) &&& (255 : Int32)) fun S1 => (f_M_load_15 N n a1 a2 a3 (a4 + (1 : Int32)) S1)) else (xBo (1 : Int32) (some ((1 : Int32), S)))
def f_M_load (N : Nat) (a1 a2 a3 : Int32) (S : xSt) : xR := if a3 < (1 : Int32) then (f_M_load_10 N S) else (if (4 : Int32) < a3 then (f_M_load_10 N S) else (f_M_load_15 N N a1 a2 a3 (0 : Int32) S))
abbrev rm_M_load : Room := { frames := 0, cells := 0, slots := 0, locals := 0 }
def f_M_peek (N : Nat) (a1 : Int32) (S : xSt) : xR := xRd S 1 4096 (a1 &&& (4095 : Int32)) fun v1 => (some (v1, S))
abbrev rm_M_peek : Room := { frames := 0, cells := 0, slots := 0, locals := 0 }
def f_M_set_25 (N : Nat) (S : xSt) : xR := xBo (0 : Int32) (some ((0 : Int32), S))
def f_M_set_72 (N : Nat) (w1 w2 : Int32) (S : xSt) : xR := xWr S 2 26 w1 w2 fun S1 => (xBo (1 : Int32) (some ((1 : Int32), S1)))
def f_M_set_27 (N : Nat) (a1 a2 : Int32) (S : xSt) : xR := if a1 < (18 : Int32) then (f_M_set_72 N a1 (a2 &&& (255 : Int32)) S) else (if a1 < (22 : Int32) then (f_M_set_72 N a1 (a2 &&& (65535 : Int32)) S) else (if a1 < (24 : Int32) then (f_M_set_72 N a1 (a2 &&& (1 : Int32)) S) else (f_M_set_72 N a1 a2 S)))
def f_M_set (N : Nat) (a1 a2 : Int32) (S : xSt) : xR := if a1 < 0 then (f_M_set_25 N S) else (if (24 : Int32) < a1 then (f_M_set_25 N S) else (if a1 = (24 : Int32) then (if a2 < 0 then (f_M_set_25 N S) else (if (2 : Int32) < a2 then (f_M_set_25 N S) else (f_M_set_27 N a1 a2 S))) else (f_M_set_27 N a1 a2 S)))
abbrev rm_M_set : Room := { frames := 0, cells := 0, slots := 0, locals := 0 }
def f_M_register_20 (N : Nat) (w0 : Int32) (S : xSt) : xR := some (w0, S)
def f_M_register_10 (N : Nat) (S : xSt) : xR := f_M_register_20 N (-1 : Int32) S
def f_M_register (N : Nat) (a1 : Int32) (S : xSt) : xR := if a1 < 0 then (f_M_register_10 N S) else (if (25 : Int32) < a1 then (f_M_register_10 N S) else (xRd S 2 26 a1 fun v1 => (f_M_register_20 N v1 S)))
abbrev rm_M_register : Room := { frames := 0, cells := 0, slots := 0, locals := 0 }
def f_M_key_19 (N : Nat) (S : xSt) : xR := xBo (0 : Int32) (some ((0 : Int32), S))
def f_M_key (N : Nat) (a1 a2 a3 : Int32) (S : xSt) : xR := if a1 < 0 then (f_M_key_19 N S) else (if (7 : Int32) < a1 then (f_M_key_19 N S) else (if a2 < 0 then (f_M_key_19 N S) else (if (4 : Int32) < a2 then (f_M_key_19 N S) else (xBo a3 (xWr S 3 40 (((5 : Int32) * a1) + a2) a3 fun S1 => (xBo (1 : Int32) (some ((1 : Int32), S1))))))))
abbrev rm_M_key : Room := { frames := 0, cells := 0, slots := 0, locals := 0 }
def f_M_pulse_32 (N : Nat) (S : xSt) : xR := xBo (0 : Int32) (some ((0 : Int32), S))
def f_M_pulse (N : Nat) (a1 : Int32) (S : xSt) : xR := xB (f_M_play N S) fun v1 S2 => (if a1 < (1 : Int32) then (f_M_pulse_32 N S2) else (if (10000 : Int32) < a1 then (f_M_pulse_32 N S2) else (if (S2 0 16) = (40 : Int32) then (f_M_pulse_32 N S2) else (if (S2 0 18) = 0 then (xWr S2 5 40 (S2 0 16) a1 fun S3 => (xPu S3 0 16 ((S3 0 16) + (1 : Int32)) fun S4 => (xBo (1 : Int32) (some ((1 : Int32), S4))))) else (f_M_pulse_32 N S2)))))
abbrev rm_M_pulse : Room := { frames := 2, cells := 0, slots := 0, locals := 43 }
def f_M_tape_25 (N : Nat) (S : xSt) : xR := xBo (0 : Int32) (some ((0 : Int32), S))
def f_M_tape_79 (N : Nat) (w1 : Int32) (S : xSt) : xR := xPu S 0 16 w1 fun S1 => (xBo (1 : Int32) (some ((1 : Int32), S1)))
def f_M_tape_62 (N : Nat) (a1 w1 : Int32) (S : xSt) : xR := xPu S 0 20 w1 fun S1 => (if a1 = (2 : Int32) then (f_M_tape_79 N (0 : Int32) S1) else (f_M_tape_79 N (S1 0 16) S1))
def f_M_tape_38 (N : Nat) (a1 w1 : Int32) (S : xSt) : xR := xBo w1 (xPu S 0 18 w1 fun S1 => (xPu S1 0 19 (S1 0 2) fun S2 => (if 0 < a1 then (f_M_tape_62 N a1 (0 : Int32) S2) else (f_M_tape_62 N a1 (S2 0 20) S2))))
def f_M_tape_27 (N : Nat) (a1 : Int32) (S : xSt) : xR := if a1 = (1 : Int32) then (f_M_tape_38 N a1 (1 : Int32) S) else (f_M_tape_38 N a1 (0 : Int32) S)
def f_M_tape (N : Nat) (a1 : Int32) (S : xSt) : xR := xB (f_M_play N S) fun v1 S2 => (if a1 < 0 then (f_M_tape_25 N S2) else (if (2 : Int32) < a1 then (f_M_tape_25 N S2) else (if a1 = (1 : Int32) then (if (S2 0 16) = 0 then (f_M_tape_25 N S2) else (f_M_tape_27 N a1 S2)) else (f_M_tape_27 N a1 S2))))
abbrev rm_M_tape : Room := { frames := 2, cells := 0, slots := 0, locals := 43 }
def f_M_step_11 (N : Nat) (S : xSt) : xR := some ((-1 : Int32), S)
def f_M_step_20 (N : Nat) : Nat → Int32 → Int32 → Int32 → xSt → xR
  | 0, _, _, _, _ => none
  | n + 1, a1, a2, a3, S => if a3 < a1 then (xB (f_M_one N S) fun v1 S2 => (f_M_step_20 N n a1 a2 (a3 + (1 : Int32)) S2)) else (some (((S 0 2) - a2), S))
def f_M_step (N : Nat) (a1 : Int32) (S : xSt) : xR := if a1 < (1 : Int32) then (f_M_step_11 N S) else (if (100 : Int32) < a1 then (f_M_step_11 N S) else (xV (S 0 2) fun b1 => (f_M_step_20 N N a1 b1 (0 : Int32) S)))
abbrev rm_M_step : Room := { frames := 10, cells := 0, slots := 0, locals := 224 }
def f_M_frame_40 (N : Nat) (a2 : Int32) (S : xSt) : xR := some (a2, S)
def f_M_frame_11 (N : Nat) : Nat → Int32 → Int32 → xSt → xR
  | 0, _, _, _ => none
  | n + 1, a1, a2, S => if a2 < (1100 : Int32) then (if ((S 0 2) / (4096 : Int32)) = a1 then (xB (f_M_one N S) fun v1 S2 => (f_M_frame_11 N n a1 (a2 + (1 : Int32)) S2)) else (f_M_frame_40 N a2 S)) else (f_M_frame_40 N a2 S)
def f_M_frame (N : Nat) (S : xSt) : xR := xV ((S 0 2) / (4096 : Int32)) fun b1 => (f_M_frame_11 N N b1 (0 : Int32) S)
abbrev rm_M_frame : Room := { frames := 10, cells := 0, slots := 0, locals := 224 }
def f_M_look_65 (N : Nat) (w0 : Int32) (S : xSt) : xR := some (w0, S)
def f_M_look_114 (N : Nat) (w0 : Int32) (S : xSt) : xR := some (w0, S)
def f_M_look (N : Nat) (a1 : Int32) (S : xSt) : xR := xB (f_M_play N S) fun v1 S2 => (if a1 < (4 : Int32) then (if a1 = 0 then (f_M_look_65 N ((S2 0 2) / (4096 : Int32)) S2) else (if a1 = (1 : Int32) then (f_M_look_65 N ((S2 0 2) - (S2 0 2) / (4096 : Int32) * (4096 : Int32)) S2) else (if a1 = (2 : Int32) then (f_M_look_65 N (S2 0 12) S2) else (if a1 = (3 : Int32) then (f_M_look_65 N (S2 0 14) S2) else (f_M_look_65 N (-1 : Int32) S2))))) else (if a1 = (4 : Int32) then (f_M_look_114 N ((S2 0 20) - (S2 0 20) / (2 : Int32) * (2 : Int32)) S2) else (if a1 = (5 : Int32) then (if (S2 0 18) = 0 then (f_M_look_114 N (0 : Int32) S2) else (f_M_look_114 N (1 : Int32) S2)) else (if a1 = (6 : Int32) then (f_M_look_114 N (S2 0 20) S2) else (f_M_look_114 N (-1 : Int32) S2)))))
abbrev rm_M_look : Room := { frames := 2, cells := 0, slots := 0, locals := 43 }
def f_M_stripe_20 (N : Nat) (w0 : Int32) (S : xSt) : xR := some (w0, S)
def f_M_stripe_10 (N : Nat) (S : xSt) : xR := f_M_stripe_20 N (-1 : Int32) S
def f_M_stripe (N : Nat) (a1 : Int32) (S : xSt) : xR := if a1 < 0 then (f_M_stripe_10 N S) else (if (63 : Int32) < a1 then (f_M_stripe_10 N S) else (xRd S 4 64 a1 fun v1 => (f_M_stripe_20 N v1 S)))
abbrev rm_M_stripe : Room := { frames := 0, cells := 0, slots := 0, locals := 0 }
