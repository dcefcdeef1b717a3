def f_B_place (N : Nat) (a1 a2 : Int32) (S : xSt) : xR := xWr S 6 4096 (a1 &&& (4095 : Int32)) (a2 &&& (255 : Int32)) fun S1 => (some (0, S1))
abbrev rm_B_place : Room := { frames := 0, cells := 0, slots := 0, locals := 0 }
def f_H_poke (N : Nat) (a1 a2 : Int32) (S : xSt) : xR := xB (f_B_place N a1 a2 S) fun v1 S2 => (some (0, S2))
abbrev rm_H_poke : Room := { frames := 1, cells := 0, slots := 0, locals := 22 }
def f_H_load_10 (N : Nat) (S : xSt) : xR := xBo (0 : Int32) (some ((0 : Int32), S))
def f_H_load_15 (N : Nat) : Nat → Int32 → Int32 → Int32 → Int32 → xSt → xR
  | 0, _, _, _, _, _ => none
  | n + 1, a1, a2, a3, a4, S => if a4 < a3 then (xB (f_B_place N (a1 + a4) (xUs a2 ((24 : Int32) - ((8 : Int32) * a4))) S) fun v1 S2 => (f_H_load_15 N n a1 a2 a3 (a4 + (1 : Int32)) S2)) else (xBo (1 : Int32) (some ((1 : Int32), S)))
def f_H_load (N : Nat) (a1 a2 a3 : Int32) (S : xSt) : xR := if a3 < (1 : Int32) then (f_H_load_10 N S) else (if (4 : Int32) < a3 then (f_H_load_10 N S) else (f_H_load_15 N N a1 a2 a3 (0 : Int32) S))
abbrev rm_H_load : Room := { frames := 1, cells := 0, slots := 0, locals := 22 }
def f_B_byteAt (N : Nat) (a1 : Int32) (S : xSt) : xR := xRd S 6 4096 (a1 &&& (4095 : Int32)) fun v1 => (some (v1, S))
abbrev rm_B_byteAt : Room := { frames := 0, cells := 0, slots := 0, locals := 0 }
def f_H_peek (N : Nat) (a1 : Int32) (S : xSt) : xR := xB (f_B_byteAt N a1 S) fun v1 S2 => (some (v1, S2))
abbrev rm_H_peek : Room := { frames := 1, cells := 0, slots := 0, locals := 21 }
def f_G_widest_30 (N : Nat) (w0 : Int32) (S : xSt) : xR := some (w0, S)
def f_G_widest (N : Nat) (a0 : Int32) (S : xSt) : xR := if a0 < (18 : Int32) then (some ((255 : Int32), S)) else (if (21 : Int32) < a0 then (if a0 = (24 : Int32) then (f_G_widest_30 N (3 : Int32) S) else (f_G_widest_30 N (1 : Int32) S)) else (some ((65535 : Int32), S)))
abbrev rm_G_widest : Room := { frames := 0, cells := 0, slots := 0, locals := 0 }
def f_G_change_25 (N : Nat) (S : xSt) : xR := xBo (0 : Int32) (some ((0 : Int32), S))
def f_G_change_27 (N : Nat) (a1 a2 : Int32) (S : xSt) : xR := xB (f_G_widest N a1 S) fun v1 S2 => (xWr S2 10 26 a1 (a2 &&& v1) fun S3 => (xBo (1 : Int32) (some ((1 : Int32), S3))))
def f_G_change (N : Nat) (a1 a2 : Int32) (S : xSt) : xR := if a1 < 0 then (f_G_change_25 N S) else (if (24 : Int32) < a1 then (f_G_change_25 N S) else (if a1 = (24 : Int32) then (if a2 < 0 then (f_G_change_25 N S) else (if (2 : Int32) < a2 then (f_G_change_25 N S) else (f_G_change_27 N a1 a2 S))) else (f_G_change_27 N a1 a2 S)))
abbrev rm_G_change : Room := { frames := 1, cells := 0, slots := 0, locals := 20 }
def f_H_set (N : Nat) (a1 a2 : Int32) (S : xSt) : xR := xB (f_G_change N a1 a2 S) fun v1 S2 => (xBo v1 (some (v1, S2)))
abbrev rm_H_set : Room := { frames := 2, cells := 0, slots := 0, locals := 42 }
def f_G_tell_20 (N : Nat) (w0 : Int32) (S : xSt) : xR := some (w0, S)
def f_G_tell_10 (N : Nat) (S : xSt) : xR := f_G_tell_20 N (-1 : Int32) S
def f_G_tell (N : Nat) (a1 : Int32) (S : xSt) : xR := if a1 < 0 then (f_G_tell_10 N S) else (if (25 : Int32) < a1 then (f_G_tell_10 N S) else (xRd S 10 26 a1 fun v1 => (f_G_tell_20 N v1 S)))
abbrev rm_G_tell : Room := { frames := 0, cells := 0, slots := 0, locals := 0 }
def f_H_register (N : Nat) (a1 : Int32) (S : xSt) : xR := xB (f_G_tell N a1 S) fun v1 S2 => (some (v1, S2))
abbrev rm_H_register : Room := { frames := 1, cells := 0, slots := 0, locals := 21 }
def f_K_move_19 (N : Nat) (S : xSt) : xR := xBo (0 : Int32) (some ((0 : Int32), S))
def f_K_move_58 (N : Nat) (w1 w2 : Int32) (S : xSt) : xR := xWr S 8 8 w1 w2 fun S1 => (xBo (1 : Int32) (some ((1 : Int32), S1)))
def f_K_move (N : Nat) (a1 a2 a3 : Int32) (S : xSt) : xR := if a1 < 0 then (f_K_move_19 N S) else (if a1 < (8 : Int32) then (if a2 < 0 then (f_K_move_19 N S) else (if a2 < (5 : Int32) then (xV ((1 : Int32) <<< (a2 &&& 31)) fun b1 => (if a3 = 0 then (xRd S 8 8 a1 fun v2 => (f_K_move_58 N a1 (v2 &&& (b1 ^^^ (-1 : Int32))) S)) else (xRd S 8 8 a1 fun v3 => (f_K_move_58 N a1 (v3 ||| b1) S)))) else (f_K_move_19 N S))) else (f_K_move_19 N S))
abbrev rm_K_move : Room := { frames := 0, cells := 0, slots := 0, locals := 0 }
def f_H_key (N : Nat) (a1 a2 a3 : Int32) (S : xSt) : xR := xB (f_K_move N a1 a2 a3 S) fun v1 S2 => (xBo v1 (some (v1, S2)))
abbrev rm_H_key : Room := { frames := 1, cells := 0, slots := 0, locals := 24 }
def f_T_follow_67 (N : Nat) (w1 : Int32) (S : xSt) : xR := xBo w1 (xPu S 4 4 w1 fun S1 => (some (0, S1)))
def f_T_follow_50 (N : Nat) (S : xSt) : xR := if (S 4 3) < (S 4 1) then (f_T_follow_67 N (1 : Int32) S) else (f_T_follow_67 N (0 : Int32) S)
def f_T_follow_8 (N : Nat) : Nat → Int32 → xSt → xR
  | 0, _, _ => none
  | n + 1, a1, S => if (S 4 3) < (S 4 1) then (xRd S 9 40 (S 4 3) fun v1 => (if (a1 - (S 4 2)) < v1 then (f_T_follow_50 N S) else (xPu S 4 3 ((S 4 3) + (1 : Int32)) fun S2 => (f_T_follow_8 N n a1 S2)))) else (f_T_follow_50 N S)
def f_T_follow (N : Nat) (a1 : Int32) (S : xSt) : xR := if (S 4 4) = 0 then (some (0, S)) else (f_T_follow_8 N N a1 S)
abbrev rm_T_follow : Room := { frames := 0, cells := 0, slots := 0, locals := 0 }
def f_T_append_28 (N : Nat) (S : xSt) : xR := xBo (0 : Int32) (some ((0 : Int32), S))
def f_T_append_61 (N : Nat) (w1 w2 w3 : Int32) (S : xSt) : xR := xWr S 9 40 w1 (w2 + w3) fun S1 => (xPu S1 4 1 ((S1 4 1) + (1 : Int32)) fun S2 => (xBo (1 : Int32) (some ((1 : Int32), S2))))
def f_T_append (N : Nat) (a1 : Int32) (S : xSt) : xR := if a1 < (1 : Int32) then (f_T_append_28 N S) else (if (10000 : Int32) < a1 then (f_T_append_28 N S) else (if (S 4 1) < (40 : Int32) then (if (S 4 4) = 0 then (if (S 4 1) = 0 then (f_T_append_61 N (S 4 1) a1 (0 : Int32) S) else (xRd S 9 40 ((S 4 1) - (1 : Int32)) fun v1 => (f_T_append_61 N (S 4 1) a1 v1 S))) else (f_T_append_28 N S)) else (f_T_append_28 N S)))
abbrev rm_T_append : Room := { frames := 0, cells := 0, slots := 0, locals := 0 }
def f_H_pulse (N : Nat) (a1 : Int32) (S : xSt) : xR := xB (f_T_follow N (S 1 4) S) fun v1 S2 => (xB (f_T_append N a1 S2) fun v3 S4 => (xBo v3 (some (v3, S4))))
abbrev rm_H_pulse : Room := { frames := 1, cells := 0, slots := 0, locals := 21 }
def f_T_command_21 (N : Nat) (S : xSt) : xR := xBo (0 : Int32) (some ((0 : Int32), S))
def f_T_command_61 (N : Nat) (S : xSt) : xR := xBo (1 : Int32) (some ((1 : Int32), S))
def f_T_command_51 (N : Nat) (a1 : Int32) (S : xSt) : xR := if a1 = (2 : Int32) then (xPu S 4 1 (0 : Int32) fun S1 => (f_T_command_61 N S1)) else (f_T_command_61 N S)
def f_T_command_34 (N : Nat) (a1 a2 w1 : Int32) (S : xSt) : xR := xBo w1 (xPu S 4 4 w1 fun S1 => (if a1 = 0 then (f_T_command_51 N a1 S1) else (xPu S1 4 3 (0 : Int32) fun S2 => (xPu S2 4 2 a2 fun S3 => (f_T_command_51 N a1 S3)))))
def f_T_command_23 (N : Nat) (a1 a2 : Int32) (S : xSt) : xR := if a1 = (1 : Int32) then (f_T_command_34 N a1 a2 (1 : Int32) S) else (f_T_command_34 N a1 a2 (0 : Int32) S)
def f_T_command (N : Nat) (a1 a2 : Int32) (S : xSt) : xR := if a1 < 0 then (f_T_command_21 N S) else (if (2 : Int32) < a1 then (f_T_command_21 N S) else (if a1 = (1 : Int32) then (if (S 4 1) = 0 then (f_T_command_21 N S) else (f_T_command_23 N a1 a2 S)) else (f_T_command_23 N a1 a2 S)))
abbrev rm_T_command : Room := { frames := 0, cells := 0, slots := 0, locals := 0 }
def f_H_tape (N : Nat) (a1 : Int32) (S : xSt) : xR := xB (f_T_follow N (S 1 4) S) fun v1 S2 => (xB (f_T_command N a1 (S2 1 4) S2) fun v3 S4 => (xBo v3 (some (v3, S4))))
abbrev rm_H_tape : Room := { frames := 1, cells := 0, slots := 0, locals := 22 }
def f_B_tickOfFrame (N : Nat) (S : xSt) : xR := some (((S 1 4) &&& (4095 : Int32)), S)
abbrev rm_B_tickOfFrame : Room := { frames := 0, cells := 0, slots := 0, locals := 0 }
def f_P_refresh (N : Nat) (S : xSt) : xR := xRd S 10 26 (17 : Int32) fun v1 => (xWr S 10 26 (17 : Int32) ((v1 &&& (128 : Int32)) ||| ((v1 + (1 : Int32)) &&& (127 : Int32))) fun S2 => (some (0, S2)))
abbrev rm_P_refresh : Room := { frames := 0, cells := 0, slots := 0, locals := 0 }
def f_B_pass_48 (N : Nat) (S : xSt) : xR := some (0, S)
def f_B_pass (N : Nat) (a1 : Int32) (S : xSt) : xR := xV ((S 1 4) >>> ((6 : Int32) &&& 31)) fun b1 => (xPu S 1 4 ((S 1 4) + a1) fun S2 => (if ((S2 1 4) >>> ((6 : Int32) &&& 31)) = b1 then (f_B_pass_48 N S2) else (xWr S2 7 64 (((S2 1 4) >>> ((6 : Int32) &&& 31)) &&& (63 : Int32)) (S2 1 5) fun S3 => (f_B_pass_48 N S3))))
abbrev rm_B_pass : Room := { frames := 0, cells := 0, slots := 0, locals := 0 }
def f_B_isShared_16 (N : Nat) (w0 : Int32) (S : xSt) : xR := xBo w0 (some (w0, S))
def f_B_isShared (N : Nat) (a0 : Int32) (S : xSt) : xR := if (a0 &&& (3072 : Int32)) = (1024 : Int32) then (f_B_isShared_16 N (1 : Int32) S) else (f_B_isShared_16 N (0 : Int32) S)
abbrev rm_B_isShared : Room := { frames := 0, cells := 0, slots := 0, locals := 0 }
def f_B_delay_75 (N : Nat) (w0 : Int32) (S : xSt) : xR := some (w0, S)
def f_B_delay_74 (N : Nat) (S : xSt) : xR := f_B_delay_75 N (0 : Int32) S
def f_B_delay_44 (N : Nat) (w0 : Int32) (S : xSt) : xR := if w0 = 0 then (f_B_delay_74 N S) else (if ((S 1 4) &&& (7 : Int32)) < (6 : Int32) then (f_B_delay_75 N ((6 : Int32) - ((S 1 4) &&& (7 : Int32))) S) else (f_B_delay_74 N S))
def f_B_delay_43 (N : Nat) (S : xSt) : xR := f_B_delay_44 N (0 : Int32) S
def f_B_delay (N : Nat) (a1 : Int32) (S : xSt) : xR := xV (((S 1 4) >>> ((6 : Int32) &&& 31)) &&& (63 : Int32)) fun b1 => (if a1 = 0 then (f_B_delay_43 N S) else (if b1 < (16 : Int32) then (f_B_delay_43 N S) else (if (47 : Int32) < b1 then (f_B_delay_43 N S) else (if ((S 1 4) &&& (63 : Int32)) < (32 : Int32) then (f_B_delay_44 N (1 : Int32) S) else (f_B_delay_43 N S)))))
abbrev rm_B_delay : Room := { frames := 0, cells := 0, slots := 0, locals := 0 }
def f_B_write_31 (N : Nat) (S : xSt) : xR := some (0, S)
def f_B_write (N : Nat) (a1 a2 : Int32) (S : xSt) : xR := xB (f_B_isShared N a1 S) fun v1 S2 => (xB (f_B_delay N v1 S2) fun v3 S4 => (xB (f_B_pass N (v3 + (3 : Int32)) S4) fun v5 S6 => (if (a1 &&& (4095 : Int32)) < (1024 : Int32) then (f_B_write_31 N S6) else (xB (f_B_place N a1 a2 S6) fun v7 S8 => (f_B_write_31 N S8)))))
abbrev rm_B_write : Room := { frames := 1, cells := 0, slots := 0, locals := 23 }
def f_P_push (N : Nat) (a1 : Int32) (S : xSt) : xR := xRd S 10 26 (20 : Int32) fun v1 => (xWr S 10 26 (20 : Int32) ((v1 - (1 : Int32)) &&& (65535 : Int32)) fun S2 => (xRd S2 10 26 (20 : Int32) fun v3 => (xB (f_B_write N v3 (a1 >>> ((8 : Int32) &&& 31)) S2) fun v4 S5 => (xRd S5 10 26 (20 : Int32) fun v6 => (xWr S5 10 26 (20 : Int32) ((v6 - (1 : Int32)) &&& (65535 : Int32)) fun S7 => (xRd S7 10 26 (20 : Int32) fun v8 => (xB (f_B_write N v8 a1 S7) fun v9 S10 => (some (0, S10)))))))))
abbrev rm_P_push : Room := { frames := 2, cells := 0, slots := 0, locals := 45 }
def f_B_read (N : Nat) (a1 : Int32) (S : xSt) : xR := xB (f_B_isShared N a1 S) fun v1 S2 => (xB (f_B_delay N v1 S2) fun v3 S4 => (xB (f_B_pass N (v3 + (3 : Int32)) S4) fun v5 S6 => (xB (f_B_byteAt N a1 S6) fun v7 S8 => (some (v7, S8)))))
abbrev rm_B_read : Room := { frames := 1, cells := 0, slots := 0, locals := 23 }
def f_P_readWord (N : Nat) (a1 : Int32) (S : xSt) : xR := xB (f_B_read N a1 S) fun v1 S2 => (xB (f_B_read N (a1 + (1 : Int32)) S2) fun v3 S4 => (some ((v1 ||| (v3 <<< ((8 : Int32) &&& 31))), S4)))
abbrev rm_P_readWord : Room := { frames := 2, cells := 0, slots := 0, locals := 44 }
def f_P_takeInterrupt_87 (N : Nat) (w1 w2 : Int32) (S : xSt) : xR := xWr S 10 26 w1 w2 fun S1 => (some (0, S1))
def f_P_takeInterrupt (N : Nat) (S : xSt) : xR := xWr S 10 26 (25 : Int32) (0 : Int32) fun S1 => (xWr S1 10 26 (22 : Int32) (0 : Int32) fun S2 => (xWr S2 10 26 (23 : Int32) (0 : Int32) fun S3 => (xB (f_P_refresh N S3) fun v4 S5 => (xB (f_B_pass N (4 : Int32) S5) fun v6 S7 => (xRd S7 10 26 (21 : Int32) fun v8 => (xB (f_P_push N v8 S7) fun v9 S10 => (xRd S10 10 26 (24 : Int32) fun v11 => (if v11 = (2 : Int32) then (xRd S10 10 26 (16 : Int32) fun v12 => (xB (f_P_readWord N ((v12 <<< ((8 : Int32) &&& 31)) ||| (255 : Int32)) S10) fun v13 S14 => (f_P_takeInterrupt_87 N (21 : Int32) v13 S14))) else (f_P_takeInterrupt_87 N (21 : Int32) (56 : Int32) S10)))))))))
abbrev rm_P_takeInterrupt : Room := { frames := 3, cells := 0, slots := 0, locals := 66 }
def f_B_fetchAt (N : Nat) (a1 : Int32) (S : xSt) : xR := xB (f_B_isShared N a1 S) fun v1 S2 => (xB (f_B_delay N v1 S2) fun v3 S4 => (xB (f_B_pass N (v3 + (4 : Int32)) S4) fun v5 S6 => (xB (f_B_byteAt N a1 S6) fun v7 S8 => (some (v7, S8)))))
abbrev rm_B_fetchAt : Room := { frames := 1, cells := 0, slots := 0, locals := 23 }
def f_P_movePc (N : Nat) (a1 : Int32) (S : xSt) : xR := xRd S 10 26 (21 : Int32) fun v1 => (xWr S 10 26 (21 : Int32) ((v1 + a1) &&& (65535 : Int32)) fun S2 => (some (0, S2)))
abbrev rm_P_movePc : Room := { frames := 0, cells := 0, slots := 0, locals := 0 }
def f_P_fetch (N : Nat) (S : xSt) : xR := xRd S 10 26 (21 : Int32) fun v1 => (xB (f_B_fetchAt N v1 S) fun v2 S3 => (xB (f_P_movePc N (1 : Int32) S3) fun v4 S5 => (xB (f_P_refresh N S5) fun v6 S7 => (some (v2, S7)))))
abbrev rm_P_fetch : Room := { frames := 2, cells := 0, slots := 0, locals := 44 }
def f_P_isPrefix_19 (N : Nat) (w0 : Int32) (S : xSt) : xR := xBo w0 (some (w0, S))
def f_P_isPrefix_14 (N : Nat) (S : xSt) : xR := f_P_isPrefix_19 N (1 : Int32) S
def f_P_isPrefix (N : Nat) (a0 : Int32) (S : xSt) : xR := if a0 = (221 : Int32) then (f_P_isPrefix_14 N S) else (if a0 = (253 : Int32) then (f_P_isPrefix_14 N S) else (f_P_isPrefix_19 N (0 : Int32) S))
abbrev rm_P_isPrefix : Room := { frames := 0, cells := 0, slots := 0, locals := 0 }
def f_P_fetchBehindPrefixes_51 (N : Nat) (a1 : Int32) (S : xSt) : xR := some (a1, S)
def f_P_fetchBehindPrefixes_37 (N : Nat) (k7 : Int32 → Int32 → xSt → xR) (a2 w1 : Int32) (S : xSt) : xR := xPu S 5 1 w1 fun S1 => (xB (f_P_fetch N S1) fun v2 S3 => (k7 v2 (a2 + (1 : Int32)) S3))
def f_P_fetchBehindPrefixes_7 (N : Nat) : Nat → Int32 → Int32 → xSt → xR
  | 0, _, _, _ => none
  | n + 1, a1, a2, S => if a2 < (3 : Int32) then (xB (f_P_isPrefix N a1 S) fun v1 S2 => (if v1 = 0 then (f_P_fetchBehindPrefixes_51 N a1 S2) else (if a1 = (221 : Int32) then (f_P_fetchBehindPrefixes_37 N (f_P_fetchBehindPrefixes_7 N n) a2 (18 : Int32) S2) else (f_P_fetchBehindPrefixes_37 N (f_P_fetchBehindPrefixes_7 N n) a2 (19 : Int32) S2)))) else (f_P_fetchBehindPrefixes_51 N a1 S)
def f_P_fetchBehindPrefixes (N : Nat) (S : xSt) : xR := xB (f_P_fetch N S) fun v1 S2 => (f_P_fetchBehindPrefixes_7 N N v1 (0 : Int32) S2)
abbrev rm_P_fetchBehindPrefixes : Room := { frames := 3, cells := 0, slots := 0, locals := 65 }
def f_P_hasM_102 (N : Nat) (w0 : Int32) (S : xSt) : xR := xBo w0 (some (w0, S))
def f_P_hasM_90 (N : Nat) (w0 : Int32) (S : xSt) : xR := xBo w0 (some (w0, S))
def f_P_hasM_89 (N : Nat) (S : xSt) : xR := f_P_hasM_90 N (0 : Int32) S
def f_P_hasM_79 (N : Nat) (a0 : Int32) (S : xSt) : xR := if a0 = (118 : Int32) then (f_P_hasM_89 N S) else (f_P_hasM_90 N (1 : Int32) S)
def f_P_hasM_66 (N : Nat) (w0 : Int32) (S : xSt) : xR := xBo w0 (some (w0, S))
def f_P_hasM_65 (N : Nat) (S : xSt) : xR := f_P_hasM_66 N (0 : Int32) S
def f_P_hasM (N : Nat) (a0 : Int32) (S : xSt) : xR := xV ((a0 >>> ((3 : Int32) &&& 31)) &&& (7 : Int32)) fun b1 => (xV (a0 &&& (7 : Int32)) fun b2 => (if (a0 >>> ((6 : Int32) &&& 31)) = (0 : Int32) then (if b1 = (6 : Int32) then (if b2 < (4 : Int32) then (f_P_hasM_65 N S) else (if (6 : Int32) < b2 then (f_P_hasM_65 N S) else (f_P_hasM_66 N (1 : Int32) S))) else (f_P_hasM_65 N S)) else (if (a0 >>> ((6 : Int32) &&& 31)) = (1 : Int32) then (if b1 = (6 : Int32) then (f_P_hasM_79 N a0 S) else (if b2 = (6 : Int32) then (f_P_hasM_79 N a0 S) else (f_P_hasM_89 N S))) else (if (a0 >>> ((6 : Int32) &&& 31)) = (2 : Int32) then (if b2 = (6 : Int32) then (f_P_hasM_102 N (1 : Int32) S) else (f_P_hasM_102 N (0 : Int32) S)) else ((xBo (0 : Int32) (some ((0 : Int32), S))))))))
abbrev rm_P_hasM : Room := { frames := 0, cells := 0, slots := 0, locals := 0 }
def f_G_joined (N : Nat) (a1 : Int32) (S : xSt) : xR := xRd S 10 26 a1 fun v1 => (xRd S 10 26 (a1 + (1 : Int32)) fun v2 => (some (((v1 <<< ((8 : Int32) &&& 31)) ||| v2), S)))
abbrev rm_G_joined : Room := { frames := 0, cells := 0, slots := 0, locals := 0 }
def f_G_hl_27 (N : Nat) (w0 : Int32) (S : xSt) : xR := some (w0, S)
def f_G_hl (N : Nat) (S : xSt) : xR := if (S 5 1) = (6 : Int32) then (xB (f_G_joined N (6 : Int32) S) fun v2 S3 => (f_G_hl_27 N v2 S3)) else (xRd S 10 26 (S 5 1) fun v1 => (f_G_hl_27 N v1 S))
abbrev rm_G_hl : Room := { frames := 1, cells := 0, slots := 0, locals := 21 }
def f_P_nextByte (N : Nat) (S : xSt) : xR := xRd S 10 26 (21 : Int32) fun v1 => (xB (f_B_read N v1 S) fun v2 S3 => (xB (f_P_movePc N (1 : Int32) S3) fun v4 S5 => (some (v2, S5))))
abbrev rm_P_nextByte : Room := { frames := 2, cells := 0, slots := 0, locals := 44 }
def f_P_findM_49 (N : Nat) (S : xSt) : xR := some (0, S)
def f_P_findM (N : Nat) (S : xSt) : xR := xB (f_G_hl N S) fun v1 S2 => (xPu S2 2 3 v1 fun S3 => (if (S3 5 1) = (6 : Int32) then (f_P_findM_49 N S3) else (xB (f_P_nextByte N S3) fun v4 S5 => (xPu S5 2 3 (((S3 2 3) + (v4.toInt8.toInt32)) &&& (65535 : Int32)) fun S6 => (xPu S6 5 1 (6 : Int32) fun S7 => (f_P_findM_49 N S7))))))
abbrev rm_P_findM : Room := { frames := 3, cells := 0, slots := 0, locals := 65 }
def f_G_single_27 (N : Nat) (a1 : Int32) (S : xSt) : xR := xRd S 10 26 ((2 : Int32) + a1) fun v1 => (some (v1, S))
def f_G_single_69 (N : Nat) (w0 : Int32) (S : xSt) : xR := some (w0, S)
def f_G_single (N : Nat) (a1 : Int32) (S : xSt) : xR := if a1 = (7 : Int32) then (xRd S 10 26 (0 : Int32) fun v3 => (some (v3, S))) else (if a1 < (4 : Int32) then (f_G_single_27 N a1 S) else (if (S 5 1) = (6 : Int32) then (f_G_single_27 N a1 S) else (if a1 = (4 : Int32) then (xRd S 10 26 (S 5 1) fun v2 => (f_G_single_69 N (v2 >>> ((8 : Int32) &&& 31)) S)) else (xRd S 10 26 (S 5 1) fun v1 => (f_G_single_69 N (v1 &&& (255 : Int32)) S)))))
abbrev rm_G_single : Room := { frames := 0, cells := 0, slots := 0, locals := 0 }
def f_P_operand_28 (N : Nat) (w0 : Int32) (S : xSt) : xR := some (w0, S)
def f_P_operand (N : Nat) (a1 : Int32) (S : xSt) : xR := if a1 = (6 : Int32) then (xB (f_B_read N (S 2 3) S) fun v3 S4 => (f_P_operand_28 N v3 S4)) else (xB (f_G_single N a1 S) fun v1 S2 => (f_P_operand_28 N v1 S2))
abbrev rm_P_operand : Room := { frames := 2, cells := 0, slots := 0, locals := 44 }
def f_P_carry (N : Nat) (S : xSt) : xR := xRd S 10 26 (1 : Int32) fun v1 => (some ((v1 &&& (1 : Int32)), S))
abbrev rm_P_carry : Room := { frames := 0, cells := 0, slots := 0, locals := 0 }
def f_A_bitFlags_21 (N : Nat) (a1 a2 w0 w1 : Int32) (S : xSt) : xR := some (((((w0 ||| w1) ||| (a1 &&& (40 : Int32))) ||| (16 : Int32)) ||| a2), S)
def f_A_bitFlags (N : Nat) (a0 a1 a2 : Int32) (S : xSt) : xR := xV (a1 &&& ((1 : Int32) <<< (a0 &&& 31))) fun b1 => (if b1 = 0 then (f_A_bitFlags_21 N a1 a2 (b1 &&& (128 : Int32)) (68 : Int32) S) else (f_A_bitFlags_21 N a1 a2 (b1 &&& (128 : Int32)) (0 : Int32) S))
abbrev rm_A_bitFlags : Room := { frames := 0, cells := 0, slots := 0, locals := 0 }
def f_A_comesIn_44 (N : Nat) (a2 : Int32) (S : xSt) : xR := some (a2, S)
def f_A_comesIn_46 (N : Nat) (a3 : Int32) (S : xSt) : xR := some (a3, S)
def f_A_comesIn_55 (N : Nat) (S : xSt) : xR := some ((0 : Int32), S)
def f_A_comesIn (N : Nat) (a0 a1 a2 a3 : Int32) (S : xSt) : xR := if a0 = (0 : Int32) then (f_A_comesIn_44 N a2 S) else (if a0 = (1 : Int32) then (f_A_comesIn_44 N a2 S) else (if a0 = (2 : Int32) then (f_A_comesIn_46 N a3 S) else (if a0 = (3 : Int32) then (f_A_comesIn_46 N a3 S) else (if a0 = (4 : Int32) then (f_A_comesIn_55 N S) else (if a0 = (5 : Int32) then (some ((a1 >>> ((7 : Int32) &&& 31)), S)) else (if a0 = (6 : Int32) then (some ((1 : Int32), S)) else ((f_A_comesIn_55 N S))))))))
abbrev rm_A_comesIn : Room := { frames := 0, cells := 0, slots := 0, locals := 0 }
def f_A_by_15 (N : Nat) (w0 w1 : Int32) (S : xSt) : xR := some ((w0 ||| w1), S)
def f_A_by (N : Nat) (a0 : Int32) (S : xSt) : xR := if a0 = 0 then (f_A_by_15 N (a0 &&& (168 : Int32)) (64 : Int32) S) else (f_A_by_15 N (a0 &&& (168 : Int32)) (0 : Int32) S)
abbrev rm_A_by : Room := { frames := 0, cells := 0, slots := 0, locals := 0 }
def f_I_bitCount (N : Nat) (a0 : Int32) (S : xSt) : xR := xV (a0 - ((xUs a0 (1 : Int32)) &&& (1431655765 : Int32))) fun b1 => (xV ((b1 &&& (858993459 : Int32)) + ((xUs b1 (2 : Int32)) &&& (858993459 : Int32))) fun b2 => (xV ((b2 + (xUs b2 (4 : Int32))) &&& (252645135 : Int32)) fun b3 => (xV (b3 + (xUs b3 (8 : Int32))) fun b4 => (xV (b4 + (xUs b4 (16 : Int32))) fun b5 => (some ((b5 &&& (63 : Int32)), S))))))
abbrev rm_I_bitCount : Room := { frames := 0, cells := 0, slots := 0, locals := 0 }
def f_A_byWithParity_18 (N : Nat) (w0 w1 : Int32) (S : xSt) : xR := some ((w0 ||| w1), S)
def f_A_byWithParity (N : Nat) (a0 : Int32) (S : xSt) : xR := xB (f_A_by N a0 S) fun v1 S2 => (xB (f_I_bitCount N a0 S2) fun v3 S4 => (if (v3 &&& (1 : Int32)) = 0 then (f_A_byWithParity_18 N v1 (4 : Int32) S4) else (f_A_byWithParity_18 N v1 (0 : Int32) S4)))
abbrev rm_A_byWithParity : Room := { frames := 1, cells := 0, slots := 0, locals := 20 }
def f_A_turned_65 (N : Nat) (a4 w0 : Int32) (S : xSt) : xR := xB (f_A_byWithParity N w0 S) fun v1 S2 => (some ((((w0 <<< ((8 : Int32) &&& 31)) ||| v1) ||| a4), S2))
def f_A_turned_27 (N : Nat) (a0 a1 a2 a3 w0 : Int32) (S : xSt) : xR := xB (f_A_comesIn N a0 a1 w0 a2 S) fun v1 S2 => (if a3 = 0 then (f_A_turned_65 N w0 (((a1 <<< ((1 : Int32) &&& 31)) &&& (255 : Int32)) ||| v1) S2) else (f_A_turned_65 N w0 ((a1 >>> ((1 : Int32) &&& 31)) ||| (v1 <<< ((7 : Int32) &&& 31))) S2))
def f_A_turned_12 (N : Nat) (a0 a1 a2 w0 : Int32) (S : xSt) : xR := if w0 = 0 then (f_A_turned_27 N a0 a1 a2 w0 (a1 >>> ((7 : Int32) &&& 31)) S) else (f_A_turned_27 N a0 a1 a2 w0 (a1 &&& (1 : Int32)) S)
def f_A_turned (N : Nat) (a0 a1 a2 : Int32) (S : xSt) : xR := if (a0 &&& (1 : Int32)) = (1 : Int32) then (f_A_turned_12 N a0 a1 a2 (1 : Int32) S) else (f_A_turned_12 N a0 a1 a2 (0 : Int32) S)
abbrev rm_A_turned : Room := { frames := 2, cells := 0, slots := 0, locals := 40 }
def f_P_changedByte (N : Nat) (a1 a2 a3 : Int32) (S : xSt) : xR := if a1 = (2 : Int32) then (some ((a3 &&& (((1 : Int32) <<< (a2 &&& 31)) ^^^ (-1 : Int32))), S)) else (if a1 = (3 : Int32) then (some ((a3 ||| ((1 : Int32) <<< (a2 &&& 31))), S)) else (xB (f_P_carry N S) fun v1 S2 => (xB (f_A_turned N a2 a3 v1 S2) fun v3 S4 => (xWr S4 10 26 (1 : Int32) (v3 &&& (255 : Int32)) fun S5 => (some ((v3 >>> ((8 : Int32) &&& 31)), S5))))))
abbrev rm_P_changedByte : Room := { frames := 3, cells := 0, slots := 0, locals := 66 }
def f_G_setSingle_100 (N : Nat) (S : xSt) : xR := some (0, S)
def f_G_setSingle_30 (N : Nat) (a1 a2 : Int32) (S : xSt) : xR := xWr S 10 26 ((2 : Int32) + a1) a2 fun S1 => (f_G_setSingle_100 N S1)
def f_G_setSingle (N : Nat) (a1 a2 : Int32) (S : xSt) : xR := if a1 = (7 : Int32) then (xWr S 10 26 (0 : Int32) a2 fun S5 => (f_G_setSingle_100 N S5)) else (if a1 < (4 : Int32) then (f_G_setSingle_30 N a1 a2 S) else (if (S 5 1) = (6 : Int32) then (f_G_setSingle_30 N a1 a2 S) else (if a1 = (4 : Int32) then (xRd S 10 26 (S 5 1) fun v3 => (xWr S 10 26 (S 5 1) ((v3 &&& (255 : Int32)) ||| (a2 <<< ((8 : Int32) &&& 31))) fun S4 => (f_G_setSingle_100 N S4))) else (xRd S 10 26 (S 5 1) fun v1 => (xWr S 10 26 (S 5 1) ((v1 &&& (65280 : Int32)) ||| a2) fun S2 => (f_G_setSingle_100 N S2))))))
abbrev rm_G_setSingle : Room := { frames := 0, cells := 0, slots := 0, locals := 0 }
def f_P_setOperand_30 (N : Nat) (S : xSt) : xR := some (0, S)
def f_P_setOperand (N : Nat) (a1 a2 : Int32) (S : xSt) : xR := if a1 = (6 : Int32) then (xB (f_B_write N (S 2 3) a2 S) fun v3 S4 => (f_P_setOperand_30 N S4)) else (xB (f_G_setSingle N a1 a2 S) fun v1 S2 => (f_P_setOperand_30 N S2))
abbrev rm_P_setOperand : Room := { frames := 2, cells := 0, slots := 0, locals := 45 }
def f_P_rotate_137 (N : Nat) (S : xSt) : xR := some (0, S)
def f_P_rotate_129 (N : Nat) (a4 a6 : Int32) (S : xSt) : xR := xB (f_P_setOperand N a4 a6 S) fun v1 S2 => (f_P_rotate_137 N S2)
def f_P_rotate_118 (N : Nat) (a1 a4 a6 : Int32) (S : xSt) : xR := if a1 = 0 then (f_P_rotate_129 N a4 a6 S) else (if a4 = (6 : Int32) then (f_P_rotate_137 N S) else (f_P_rotate_129 N a4 a6 S))
def f_P_rotate_63 (N : Nat) (a1 a2 a3 a4 w1 : Int32) (S : xSt) : xR := xB (f_P_operand N w1 S) fun v1 S2 => (if (a2 >>> ((6 : Int32) &&& 31)) = (1 : Int32) then (xB (f_P_carry N S2) fun v7 S8 => (xB (f_A_bitFlags N a3 v1 v7 S8) fun v9 S10 => (xWr S10 10 26 (1 : Int32) v9 fun S11 => (some (0, S11))))) else (xB (f_P_changedByte N (a2 >>> ((6 : Int32) &&& 31)) a3 v1 S2) fun v3 S4 => (if a1 = 0 then (f_P_rotate_118 N a1 a4 v3 S4) else (xB (f_P_setOperand N (6 : Int32) v3 S4) fun v5 S6 => (f_P_rotate_118 N a1 a4 v3 S6)))))
def f_P_rotate_37 (N : Nat) (a1 w0 : Int32) (S : xSt) : xR := xV ((w0 >>> ((3 : Int32) &&& 31)) &&& (7 : Int32)) fun b1 => (xV (w0 &&& (7 : Int32)) fun b2 => (if a1 = 0 then (f_P_rotate_63 N a1 w0 b1 b2 b2 S) else (f_P_rotate_63 N a1 w0 b1 b2 (6 : Int32) S)))
def f_P_rotate_17 (N : Nat) (w0 : Int32) (S : xSt) : xR := xB (f_P_findM N S) fun v1 S2 => (if w0 = 0 then (xB (f_P_fetch N S2) fun v3 S4 => (f_P_rotate_37 N w0 v3 S4)) else (xB (f_P_nextByte N S2) fun v5 S6 => (f_P_rotate_37 N w0 v5 S6)))
def f_P_rotate (N : Nat) (S : xSt) : xR := if (S 5 1) = (6 : Int32) then (f_P_rotate_17 N (0 : Int32) S) else (f_P_rotate_17 N (1 : Int32) S)
abbrev rm_P_rotate : Room := { frames := 4, cells := 0, slots := 0, locals := 90 }
def f_G_split (N : Nat) (a1 a2 : Int32) (S : xSt) : xR := xWr S 10 26 a1 ((a2 >>> ((8 : Int32) &&& 31)) &&& (255 : Int32)) fun S1 => (xWr S1 10 26 (a1 + (1 : Int32)) (a2 &&& (255 : Int32)) fun S2 => (some (0, S2)))
abbrev rm_G_split : Room := { frames := 0, cells := 0, slots := 0, locals := 0 }
def f_G_setHl_32 (N : Nat) (S : xSt) : xR := some (0, S)
def f_G_setHl (N : Nat) (a1 : Int32) (S : xSt) : xR := if (S 5 1) = (6 : Int32) then (xB (f_G_split N (6 : Int32) a1 S) fun v2 S3 => (f_G_setHl_32 N S3)) else (xWr S 10 26 (S 5 1) (a1 &&& (65535 : Int32)) fun S1 => (f_G_setHl_32 N S1))
abbrev rm_G_setHl : Room := { frames := 1, cells := 0, slots := 0, locals := 22 }
def f_P_advance_58 (N : Nat) (w0 w1 : Int32) (S : xSt) : xR := some ((w0 ||| w1), S)
def f_P_advance (N : Nat) (a1 a2 : Int32) (S : xSt) : xR := xB (f_G_hl N S) fun v1 S2 => (xB (f_G_setHl N (v1 + a1) S2) fun v3 S4 => (xB (f_G_joined N (2 : Int32) S4) fun v5 S6 => (xV ((v5 - (1 : Int32)) &&& (65535 : Int32)) fun b7 => (xB (f_G_split N (2 : Int32) b7 S6) fun v8 S9 => (if b7 = 0 then (f_P_advance_58 N (((a2 &&& (2 : Int32)) <<< ((4 : Int32) &&& 31)) ||| (a2 &&& (8 : Int32))) (0 : Int32) S9) else (f_P_advance_58 N (((a2 &&& (2 : Int32)) <<< ((4 : Int32) &&& 31)) ||| (a2 &&& (8 : Int32))) (4 : Int32) S9))))))
abbrev rm_P_advance : Room := { frames := 2, cells := 0, slots := 0, locals := 43 }
def f_P_setFlags (N : Nat) (a1 a2 : Int32) (S : xSt) : xR := xRd S 10 26 (1 : Int32) fun v1 => (xWr S 10 26 (1 : Int32) ((v1 &&& a1) ||| a2) fun S2 => (some (0, S2)))
abbrev rm_P_setFlags : Room := { frames := 0, cells := 0, slots := 0, locals := 0 }
def f_P_moveByte_104 (N : Nat) (S : xSt) : xR := some (0, S)
def f_P_moveByte_42 (N : Nat) (a1 a2 w0 : Int32) (S : xSt) : xR := xB (f_G_joined N (4 : Int32) S) fun v1 S2 => (xB (f_G_split N (4 : Int32) (v1 + w0) S2) fun v3 S4 => (xRd S4 10 26 (0 : Int32) fun v5 => (xB (f_P_advance N w0 (v5 + a2) S4) fun v6 S7 => (xB (f_P_setFlags N (193 : Int32) v6 S7) fun v8 S9 => (if a1 < (6 : Int32) then (f_P_moveByte_104 N S9) else (if (v6 &&& (4 : Int32)) = 0 then (f_P_moveByte_104 N S9) else (xB (f_P_movePc N (-2 : Int32) S9) fun v10 S11 => (f_P_moveByte_104 N S11))))))))
def f_P_moveByte (N : Nat) (a1 : Int32) (S : xSt) : xR := xB (f_G_hl N S) fun v1 S2 => (xB (f_B_read N v1 S2) fun v3 S4 => (xB (f_G_joined N (4 : Int32) S4) fun v5 S6 => (xB (f_B_write N v5 v3 S6) fun v7 S8 => (if (a1 &&& (1 : Int32)) = 0 then (f_P_moveByte_42 N a1 v3 (1 : Int32) S8) else (f_P_moveByte_42 N a1 v3 (-1 : Int32) S8)))))
abbrev rm_P_moveByte : Room := { frames := 3, cells := 0, slots := 0, locals := 66 }
def f_A_minus (N : Nat) (a0 a1 a2 : Int32) (S : xSt) : xR := xV ((a0 - a1) - a2) fun b1 => (xV (((a0 ^^^ a1) &&& (a0 ^^^ b1)) &&& (128 : Int32)) fun b2 => (xB (f_A_by N (b1 &&& (255 : Int32)) S) fun v3 S4 => (xV ((((v3 ||| (((a0 ^^^ a1) ^^^ b1) &&& (16 : Int32))) ||| (b2 >>> ((5 : Int32) &&& 31))) ||| (2 : Int32)) ||| ((b1 >>> ((8 : Int32) &&& 31)) &&& (1 : Int32))) fun b5 => (some ((((b1 &&& (255 : Int32)) <<< ((8 : Int32) &&& 31)) ||| b5), S4)))))
abbrev rm_A_minus : Room := { frames := 1, cells := 0, slots := 0, locals := 20 }
def f_P_lookAtByte_104 (N : Nat) (S : xSt) : xR := some (0, S)
def f_P_lookAtByte_53 (N : Nat) (a1 a3 a4 w1 : Int32) (S : xSt) : xR := xB (f_P_advance N w1 ((a3 >>> ((8 : Int32) &&& 31)) - a4) S) fun v1 S2 => (xB (f_P_setFlags N (1 : Int32) (v1 ||| (a3 &&& (210 : Int32))) S2) fun v3 S4 => (if a1 < (6 : Int32) then (f_P_lookAtByte_104 N S4) else (if (v1 &&& (4 : Int32)) = 0 then (f_P_lookAtByte_104 N S4) else (if (a3 >>> ((8 : Int32) &&& 31)) = 0 then (f_P_lookAtByte_104 N S4) else (xB (f_P_movePc N (-2 : Int32) S4) fun v5 S6 => (f_P_lookAtByte_104 N S6))))))
def f_P_lookAtByte_39 (N : Nat) (a1 a3 w0 : Int32) (S : xSt) : xR := if (a1 &&& (1 : Int32)) = 0 then (f_P_lookAtByte_53 N a1 a3 w0 (1 : Int32) S) else (f_P_lookAtByte_53 N a1 a3 w0 (-1 : Int32) S)
def f_P_lookAtByte (N : Nat) (a1 : Int32) (S : xSt) : xR := xB (f_G_hl N S) fun v1 S2 => (xB (f_B_read N v1 S2) fun v3 S4 => (xRd S4 10 26 (0 : Int32) fun v5 => (xB (f_A_minus N v5 v3 (0 : Int32) S4) fun v6 S7 => (if (v6 &&& (16 : Int32)) = 0 then (f_P_lookAtByte_39 N a1 v6 (0 : Int32) S7) else (f_P_lookAtByte_39 N a1 v6 (1 : Int32) S7)))))
abbrev rm_P_lookAtByte : Room := { frames := 3, cells := 0, slots := 0, locals := 66 }
def f_T_level (N : Nat) (S : xSt) : xR := some (((S 4 3) &&& (1 : Int32)), S)
abbrev rm_T_level : Room := { frames := 0, cells := 0, slots := 0, locals := 0 }
def f_K_upIn_29 (N : Nat) (k4 : Int32 → Int32 → Int32 → xSt → xR) (a1 a2 a3 : Int32) (S : xSt) : xR := k4 a1 a2 (a3 + (1 : Int32)) S
def f_K_upIn_4 (N : Nat) : Nat → Int32 → Int32 → Int32 → xSt → xR
  | 0, _, _, _, _ => none
  | n + 1, a1, a2, a3, S => if a3 < (8 : Int32) then (if (a1 &&& ((256 : Int32) <<< (a3 &&& 31))) = 0 then (xRd S 8 8 a3 fun v1 => (xV (a2 ||| v1) fun b2 => (f_K_upIn_29 N (f_K_upIn_4 N n) a1 b2 a3 S))) else (f_K_upIn_29 N (f_K_upIn_4 N n) a1 a2 a3 S)) else (some (((31 : Int32) &&& (a2 ^^^ (-1 : Int32))), S))
def f_K_upIn (N : Nat) (a1 : Int32) (S : xSt) : xR := f_K_upIn_4 N N a1 (0 : Int32) (0 : Int32) S
abbrev rm_K_upIn : Room := { frames := 0, cells := 0, slots := 0, locals := 0 }
def f_B_readPort (N : Nat) (a1 : Int32) (S : xSt) : xR := if (a1 &&& (1 : Int32)) = (1 : Int32) then (xB (f_B_pass N (4 : Int32) S) fun v14 S15 => (some ((255 : Int32), S15))) else (xB (f_B_delay N (1 : Int32) S) fun v1 S2 => (xB (f_B_pass N v1 S2) fun v3 S4 => (xB (f_T_follow N (S4 1 4) S4) fun v5 S6 => (xB (f_T_level N S6) fun v7 S8 => (xB (f_K_upIn N a1 S8) fun v9 S10 => (xV (((160 : Int32) ||| (v7 <<< ((6 : Int32) &&& 31))) ||| v9) fun b11 => (xB (f_B_pass N (4 : Int32) S10) fun v12 S13 => (some (b11, S13)))))))))
abbrev rm_B_readPort : Room := { frames := 1, cells := 0, slots := 0, locals := 23 }
def f_P_takeFromPort_40 (N : Nat) (S : xSt) : xR := some (0, S)
def f_P_takeFromPort (N : Nat) (a1 : Int32) (S : xSt) : xR := xB (f_G_joined N (2 : Int32) S) fun v1 S2 => (xB (f_B_readPort N v1 S2) fun v3 S4 => (xB (f_A_byWithParity N v3 S4) fun v5 S6 => (xB (f_P_setFlags N (1 : Int32) v5 S6) fun v7 S8 => (if a1 = (6 : Int32) then (f_P_takeFromPort_40 N S8) else (xB (f_G_setSingle N a1 v3 S8) fun v9 S10 => (f_P_takeFromPort_40 N S10))))))
abbrev rm_P_takeFromPort : Room := { frames := 2, cells := 0, slots := 0, locals := 45 }
def f_B_writePort_58 (N : Nat) (a3 : Int32) (S : xSt) : xR := xPu S 1 6 a3 fun S1 => (xB (f_B_pass N (1 : Int32) S1) fun v2 S3 => (some (0, S3)))
def f_B_writePort (N : Nat) (a1 a2 : Int32) (S : xSt) : xR := if (a1 &&& (1 : Int32)) = (1 : Int32) then (xB (f_B_pass N (4 : Int32) S) fun v8 S9 => (some (0, S9))) else (xB (f_B_delay N (1 : Int32) S) fun v1 S2 => (xB (f_B_pass N ((v1 + (4 : Int32)) - (1 : Int32)) S2) fun v3 S4 => (xPu S4 1 5 (a2 &&& (7 : Int32)) fun S5 => (xV ((a2 >>> ((4 : Int32) &&& 31)) &&& (1 : Int32)) fun b6 => (if b6 = (S5 1 6) then (f_B_writePort_58 N b6 S5) else (xPu S5 1 7 ((S5 1 7) + (1 : Int32)) fun S7 => (f_B_writePort_58 N b6 S7)))))))
abbrev rm_B_writePort : Room := { frames := 1, cells := 0, slots := 0, locals := 23 }
def f_G_pair_34 (N : Nat) (w0 : Int32) (S : xSt) : xR := some (w0, S)
def f_G_pair (N : Nat) (a1 : Int32) (S : xSt) : xR := if a1 = (3 : Int32) then (xRd S 10 26 (20 : Int32) fun v5 => (some (v5, S))) else (if a1 = (2 : Int32) then (xB (f_G_hl N S) fun v3 S4 => (f_G_pair_34 N v3 S4)) else (xB (f_G_joined N ((2 : Int32) + ((2 : Int32) * a1)) S) fun v1 S2 => (f_G_pair_34 N v1 S2)))
abbrev rm_G_pair : Room := { frames := 2, cells := 0, slots := 0, locals := 41 }
def f_A_byWide_21 (N : Nat) (w0 w1 : Int32) (S : xSt) : xR := some ((w0 ||| w1), S)
def f_A_byWide (N : Nat) (a0 : Int32) (S : xSt) : xR := if (a0 &&& (65535 : Int32)) = 0 then (f_A_byWide_21 N ((a0 >>> ((8 : Int32) &&& 31)) &&& (168 : Int32)) (64 : Int32) S) else (f_A_byWide_21 N ((a0 >>> ((8 : Int32) &&& 31)) &&& (168 : Int32)) (0 : Int32) S)
abbrev rm_A_byWide : Room := { frames := 0, cells := 0, slots := 0, locals := 0 }
def f_A_plusWide (N : Nat) (a0 a1 a2 : Int32) (S : xSt) : xR := xV ((a0 + a1) + a2) fun b1 => (xV (((a0 ^^^ b1) &&& (a1 ^^^ b1)) &&& (32768 : Int32)) fun b2 => (xB (f_A_byWide N b1 S) fun v3 S4 => (xV (((v3 ||| ((((a0 ^^^ a1) ^^^ b1) >>> ((8 : Int32) &&& 31)) &&& (16 : Int32))) ||| (b2 >>> ((13 : Int32) &&& 31))) ||| ((b1 >>> ((16 : Int32) &&& 31)) &&& (1 : Int32))) fun b5 => (some ((((b1 &&& (65535 : Int32)) <<< ((8 : Int32) &&& 31)) ||| b5), S4)))))
abbrev rm_A_plusWide : Room := { frames := 1, cells := 0, slots := 0, locals := 20 }
def f_A_minusWide (N : Nat) (a0 a1 a2 : Int32) (S : xSt) : xR := xV ((a0 - a1) - a2) fun b1 => (xV (((a0 ^^^ a1) &&& (a0 ^^^ b1)) &&& (32768 : Int32)) fun b2 => (xB (f_A_byWide N b1 S) fun v3 S4 => (xV ((((v3 ||| ((((a0 ^^^ a1) ^^^ b1) >>> ((8 : Int32) &&& 31)) &&& (16 : Int32))) ||| (b2 >>> ((13 : Int32) &&& 31))) ||| (2 : Int32)) ||| ((b1 >>> ((16 : Int32) &&& 31)) &&& (1 : Int32))) fun b5 => (some ((((b1 &&& (65535 : Int32)) <<< ((8 : Int32) &&& 31)) ||| b5), S4)))))
abbrev rm_A_minusWide : Room := { frames := 1, cells := 0, slots := 0, locals := 20 }
def f_P_sumWithCarry_51 (N : Nat) (w0 : Int32) (S : xSt) : xR := xWr S 10 26 (1 : Int32) (w0 &&& (255 : Int32)) fun S1 => (xB (f_G_setHl N (w0 >>> ((8 : Int32) &&& 31)) S1) fun v2 S3 => (some (0, S3)))
def f_P_sumWithCarry (N : Nat) (a1 : Int32) (S : xSt) : xR := xB (f_G_pair N (a1 >>> ((1 : Int32) &&& 31)) S) fun v1 S2 => (if (a1 &&& (1 : Int32)) = (1 : Int32) then (xB (f_G_hl N S2) fun v9 S10 => (xB (f_P_carry N S10) fun v11 S12 => (xB (f_A_plusWide N v9 v1 v11 S12) fun v13 S14 => (f_P_sumWithCarry_51 N v13 S14)))) else (xB (f_G_hl N S2) fun v3 S4 => (xB (f_P_carry N S4) fun v5 S6 => (xB (f_A_minusWide N v3 v1 v5 S6) fun v7 S8 => (f_P_sumWithCarry_51 N v7 S8)))))
abbrev rm_P_sumWithCarry : Room := { frames := 3, cells := 0, slots := 0, locals := 62 }
def f_P_nextWord (N : Nat) (S : xSt) : xR := xRd S 10 26 (21 : Int32) fun v1 => (xB (f_B_read N v1 S) fun v2 S3 => (xRd S3 10 26 (21 : Int32) fun v4 => (xB (f_B_read N (v4 + (1 : Int32)) S3) fun v5 S6 => (xB (f_P_movePc N (2 : Int32) S6) fun v7 S8 => (some (((v5 <<< ((8 : Int32) &&& 31)) ||| v2), S8))))))
abbrev rm_P_nextWord : Room := { frames := 2, cells := 0, slots := 0, locals := 44 }
def f_G_setPair_42 (N : Nat) (S : xSt) : xR := some (0, S)
def f_G_setPair (N : Nat) (a1 a2 : Int32) (S : xSt) : xR := if a1 = (3 : Int32) then (xWr S 10 26 (20 : Int32) (a2 &&& (65535 : Int32)) fun S5 => (f_G_setPair_42 N S5)) else (if a1 = (2 : Int32) then (xB (f_G_setHl N a2 S) fun v3 S4 => (f_G_setPair_42 N S4)) else (xB (f_G_split N ((2 : Int32) + ((2 : Int32) * a1)) a2 S) fun v1 S2 => (f_G_setPair_42 N S2)))
abbrev rm_G_setPair : Room := { frames := 2, cells := 0, slots := 0, locals := 43 }
def f_P_writeWord (N : Nat) (a1 a2 : Int32) (S : xSt) : xR := xB (f_B_write N a1 a2 S) fun v1 S2 => (xB (f_B_write N (a1 + (1 : Int32)) (a2 >>> ((8 : Int32) &&& 31)) S2) fun v3 S4 => (some (0, S4)))
abbrev rm_P_writeWord : Room := { frames := 2, cells := 0, slots := 0, locals := 45 }
def f_P_passPair_45 (N : Nat) (S : xSt) : xR := some (0, S)
def f_P_passPair (N : Nat) (a1 : Int32) (S : xSt) : xR := xB (f_P_nextWord N S) fun v1 S2 => (if (a1 &&& (1 : Int32)) = (1 : Int32) then (xB (f_P_readWord N v1 S2) fun v7 S8 => (xB (f_G_setPair N (a1 >>> ((1 : Int32) &&& 31)) v7 S8) fun v9 S10 => (f_P_passPair_45 N S10))) else (xB (f_G_pair N (a1 >>> ((1 : Int32) &&& 31)) S2) fun v3 S4 => (xB (f_P_writeWord N v1 v3 S4) fun v5 S6 => (f_P_passPair_45 N S6))))
abbrev rm_P_passPair : Room := { frames := 3, cells := 0, slots := 0, locals := 67 }
def f_P_pop (N : Nat) (S : xSt) : xR := xRd S 10 26 (20 : Int32) fun v1 => (xB (f_P_readWord N v1 S) fun v2 S3 => (xRd S3 10 26 (20 : Int32) fun v4 => (xWr S3 10 26 (20 : Int32) ((v4 + (2 : Int32)) &&& (65535 : Int32)) fun S5 => (some (v2, S5)))))
abbrev rm_P_pop : Room := { frames := 3, cells := 0, slots := 0, locals := 66 }
def f_P_turnTwelveBits_82 (N : Nat) (w0 w1 : Int32) (S : xSt) : xR := xV (w0 ||| w1) fun b1 => (xWr S 10 26 (0 : Int32) b1 fun S2 => (xB (f_A_byWithParity N b1 S2) fun v3 S4 => (xB (f_P_setFlags N (1 : Int32) v3 S4) fun v5 S6 => (some (0, S6)))))
def f_P_turnTwelveBits_55 (N : Nat) (a1 a2 w1 w2 : Int32) (S : xSt) : xR := xB (f_B_write N w1 w2 S) fun v1 S2 => (xRd S2 10 26 (0 : Int32) fun v3 => (if a1 = 0 then (f_P_turnTwelveBits_82 N (v3 &&& (240 : Int32)) (a2 &&& (15 : Int32)) S2) else (f_P_turnTwelveBits_82 N (v3 &&& (240 : Int32)) (a2 >>> ((4 : Int32) &&& 31)) S2)))
def f_P_turnTwelveBits (N : Nat) (a1 : Int32) (S : xSt) : xR := xB (f_G_hl N S) fun v1 S2 => (xB (f_B_read N v1 S2) fun v3 S4 => (xRd S4 10 26 (0 : Int32) fun v5 => (xV (v5 &&& (15 : Int32)) fun b6 => (xB (f_G_hl N S4) fun v7 S8 => (if a1 = 0 then (f_P_turnTwelveBits_55 N a1 v3 v7 ((b6 <<< ((4 : Int32) &&& 31)) ||| (v3 >>> ((4 : Int32) &&& 31))) S8) else (f_P_turnTwelveBits_55 N a1 v3 v7 ((v3 <<< ((4 : Int32) &&& 31)) ||| b6) S8))))))
abbrev rm_P_turnTwelveBits : Room := { frames := 2, cells := 0, slots := 0, locals := 45 }
def f_P_doSpecial_136 (N : Nat) (S : xSt) : xR := some (0, S)
def f_P_doSpecial_88 (N : Nat) (w1 : Int32) (S : xSt) : xR := xRd S 10 26 w1 fun v1 => (xWr S 10 26 (0 : Int32) v1 fun S2 => (xB (f_A_by N v1 S2) fun v3 S4 => (xRd S4 10 26 (23 : Int32) fun v5 => (xB (f_P_setFlags N (1 : Int32) (v3 ||| (v5 * (4 : Int32))) S4) fun v6 S7 => (f_P_doSpecial_136 N S7)))))
def f_P_doSpecial_72 (N : Nat) (a1 : Int32) (S : xSt) : xR := if a1 = (2 : Int32) then (f_P_doSpecial_88 N (16 : Int32) S) else (f_P_doSpecial_88 N (17 : Int32) S)
def f_P_doSpecial_130 (N : Nat) (w1 : Int32) (S : xSt) : xR := xB (f_P_turnTwelveBits N w1 S) fun v1 S2 => (f_P_doSpecial_136 N S2)
def f_P_doSpecial_119 (N : Nat) (a1 : Int32) (S : xSt) : xR := if a1 = (5 : Int32) then (f_P_doSpecial_130 N (1 : Int32) S) else (f_P_doSpecial_130 N (0 : Int32) S)
def f_P_doSpecial (N : Nat) (a1 : Int32) (S : xSt) : xR := if a1 = (0 : Int32) then (xRd S 10 26 (0 : Int32) fun v2 => (xWr S 10 26 (16 : Int32) v2 fun S3 => (f_P_doSpecial_136 N S3))) else (if a1 = (1 : Int32) then (xRd S 10 26 (0 : Int32) fun v5 => (xWr S 10 26 (17 : Int32) v5 fun S6 => (f_P_doSpecial_136 N S6))) else (if a1 = (2 : Int32) then (f_P_doSpecial_72 N a1 S) else (if a1 = (3 : Int32) then (f_P_doSpecial_72 N a1 S) else (if a1 = (4 : Int32) then (f_P_doSpecial_119 N a1 S) else (if a1 = (5 : Int32) then (f_P_doSpecial_119 N a1 S) else ((f_P_doSpecial_136 N S)))))))
abbrev rm_P_doSpecial : Room := { frames := 3, cells := 0, slots := 0, locals := 69 }
def f_P_more_234 (N : Nat) (S : xSt) : xR := some (0, S)
def f_P_more_138 (N : Nat) (w1 w2 : Int32) (S : xSt) : xR := xB (f_B_writePort N w1 w2 S) fun v1 S2 => (f_P_more_234 N S2)
def f_P_more_47 (N : Nat) (a1 a2 a3 : Int32) (S : xSt) : xR := if (a1 >>> ((6 : Int32) &&& 31)) = (1 : Int32) then (if a3 = (0 : Int32) then (xB (f_P_takeFromPort N a2 S) fun v2 S3 => (f_P_more_234 N S3)) else (if a3 = (1 : Int32) then (xB (f_G_joined N (2 : Int32) S) fun v5 S6 => (if a2 = (6 : Int32) then (f_P_more_138 N v5 (0 : Int32) S6) else (xB (f_G_single N a2 S6) fun v7 S8 => (f_P_more_138 N v5 v7 S8)))) else (if a3 = (2 : Int32) then (xB (f_P_sumWithCarry N a2 S) fun v10 S11 => (f_P_more_234 N S11)) else (if a3 = (3 : Int32) then (xB (f_P_passPair N a2 S) fun v13 S14 => (f_P_more_234 N S14)) else (if a3 = (4 : Int32) then (xRd S 10 26 (0 : Int32) fun v16 => (xB (f_A_minus N (0 : Int32) v16 (0 : Int32) S) fun v17 S18 => (xB (f_G_split N (0 : Int32) v17 S18) fun v19 S20 => (f_P_more_234 N S20)))) else (if a3 = (5 : Int32) then (xB (f_P_pop N S) fun v22 S23 => (xWr S23 10 26 (21 : Int32) v22 fun S24 => (xRd S24 10 26 (23 : Int32) fun v25 => (xWr S24 10 26 (22 : Int32) v25 fun S26 => (f_P_more_234 N S26))))) else (if a3 = (6 : Int32) then (xWr S 10 26 (24 : Int32) (if (0 : Int32) < ((a2 &&& (3 : Int32)) - (1 : Int32)) then ((a2 &&& (3 : Int32)) - (1 : Int32)) else (0 : Int32)) fun S28 => (f_P_more_234 N S28)) else ((xB (f_P_doSpecial N a2 S) fun v29 S30 => (f_P_more_234 N S30)))))))))) else (some (0, S))
def f_P_more (N : Nat) (a1 : Int32) (S : xSt) : xR := xV ((a1 >>> ((3 : Int32) &&& 31)) &&& (7 : Int32)) fun b1 => (xV (a1 &&& (7 : Int32)) fun b2 => (if (a1 >>> ((6 : Int32) &&& 31)) = (2 : Int32) then (if b1 < (4 : Int32) then (f_P_more_47 N a1 b1 b2 S) else (if b2 < (2 : Int32) then (if b2 = 0 then (xB (f_P_moveByte N b1 S) fun v5 S6 => (f_P_more_47 N a1 b1 b2 S6)) else (xB (f_P_lookAtByte N b1 S) fun v3 S4 => (f_P_more_47 N a1 b1 b2 S4))) else (f_P_more_47 N a1 b1 b2 S))) else (f_P_more_47 N a1 b1 b2 S)))
abbrev rm_P_more : Room := { frames := 4, cells := 0, slots := 0, locals := 91 }
def f_G_swap (N : Nat) (a1 a2 : Int32) (S : xSt) : xR := xRd S 10 26 a1 fun v1 => (xRd S 10 26 a2 fun v2 => (xWr S 10 26 a1 v2 fun S3 => (xWr S3 10 26 a2 v1 fun S4 => (some (0, S4)))))
abbrev rm_G_swap : Room := { frames := 0, cells := 0, slots := 0, locals := 0 }
def f_G_swapWithSecond_28 (N : Nat) (S : xSt) : xR := some (0, S)
def f_G_swapWithSecond_2 (N : Nat) : Nat → Int32 → Int32 → xSt → xR
  | 0, _, _, _ => none
  | n + 1, a2, a3, S => if a2 < a3 then (f_G_swapWithSecond_28 N S) else (if a3 < (8 : Int32) then (xB (f_G_swap N a3 (a3 + (8 : Int32)) S) fun v1 S2 => (f_G_swapWithSecond_2 N n a2 (a3 + (1 : Int32)) S2)) else (f_G_swapWithSecond_28 N S))
def f_G_swapWithSecond (N : Nat) (a1 a2 : Int32) (S : xSt) : xR := f_G_swapWithSecond_2 N N a2 a1 S
abbrev rm_G_swapWithSecond : Room := { frames := 1, cells := 0, slots := 0, locals := 23 }
def f_P_condition_84 (N : Nat) (w0 : Int32) (S : xSt) : xR := xBo w0 (some (w0, S))
def f_P_condition_76 (N : Nat) (w0 w1 : Int32) (S : xSt) : xR := if w0 = w1 then (f_P_condition_84 N (1 : Int32) S) else (f_P_condition_84 N (0 : Int32) S)
def f_P_condition_64 (N : Nat) (a1 w0 : Int32) (S : xSt) : xR := if (a1 &&& (1 : Int32)) = (1 : Int32) then (f_P_condition_76 N w0 (1 : Int32) S) else (f_P_condition_76 N w0 (0 : Int32) S)
def f_P_condition_48 (N : Nat) (a1 a2 : Int32) (S : xSt) : xR := xRd S 10 26 (1 : Int32) fun v1 => (if (v1 &&& a2) = 0 then (f_P_condition_64 N a1 (0 : Int32) S) else (f_P_condition_64 N a1 (1 : Int32) S))
def f_P_condition (N : Nat) (a1 : Int32) (S : xSt) : xR := if (a1 >>> ((1 : Int32) &&& 31)) = (0 : Int32) then (f_P_condition_48 N a1 (64 : Int32) S) else (if (a1 >>> ((1 : Int32) &&& 31)) = (1 : Int32) then (f_P_condition_48 N a1 (1 : Int32) S) else (if (a1 >>> ((1 : Int32) &&& 31)) = (2 : Int32) then (f_P_condition_48 N a1 (4 : Int32) S) else ((f_P_condition_48 N a1 (128 : Int32) S))))
abbrev rm_P_condition : Room := { frames := 0, cells := 0, slots := 0, locals := 0 }
def f_P_moveNear_99 (N : Nat) (S : xSt) : xR := some (0, S)
def f_P_moveNear_90 (N : Nat) (a2 a3 : Int32) (S : xSt) : xR := if a3 = 0 then (f_P_moveNear_99 N S) else (xB (f_P_movePc N a2 S) fun v1 S2 => (f_P_moveNear_99 N S2))
def f_P_moveNear_89 (N : Nat) (a2 w0 : Int32) (S : xSt) : xR := f_P_moveNear_90 N a2 w0 S
def f_P_moveNear_51 (N : Nat) (a1 a2 w0 : Int32) (S : xSt) : xR := if a1 = (2 : Int32) then (xRd S 10 26 (2 : Int32) fun v1 => (xWr S 10 26 (2 : Int32) ((v1 - (1 : Int32)) &&& (255 : Int32)) fun S2 => (xRd S2 10 26 (2 : Int32) fun v3 => (if v3 = 0 then (f_P_moveNear_89 N a2 (0 : Int32) S2) else (f_P_moveNear_89 N a2 (1 : Int32) S2))))) else (f_P_moveNear_90 N a2 w0 S)
def f_P_moveNear_46 (N : Nat) (a1 a2 : Int32) (S : xSt) : xR := f_P_moveNear_51 N a1 a2 (1 : Int32) S
def f_P_moveNear_50 (N : Nat) (a1 a2 : Int32) (S : xSt) : xR := f_P_moveNear_51 N a1 a2 (0 : Int32) S
def f_P_moveNear (N : Nat) (a1 : Int32) (S : xSt) : xR := if a1 = 0 then (some (0, S)) else (if a1 = (1 : Int32) then (xB (f_G_swapWithSecond N (0 : Int32) (1 : Int32) S) fun v6 S7 => (some (0, S7))) else (xB (f_P_nextByte N S) fun v1 S2 => (xV (v1.toInt8.toInt32) fun b3 => (if a1 = (3 : Int32) then (f_P_moveNear_46 N a1 b3 S2) else (if (3 : Int32) < a1 then (xB (f_P_condition N (a1 - (4 : Int32)) S2) fun v4 S5 => (if v4 = 0 then (f_P_moveNear_50 N a1 b3 S5) else (f_P_moveNear_46 N a1 b3 S5))) else (f_P_moveNear_50 N a1 b3 S2))))))
abbrev rm_P_moveNear : Room := { frames := 3, cells := 0, slots := 0, locals := 65 }
def f_P_addPair (N : Nat) (a1 : Int32) (S : xSt) : xR := xB (f_G_hl N S) fun v1 S2 => (xB (f_G_pair N a1 S2) fun v3 S4 => (xB (f_A_plusWide N v1 v3 (0 : Int32) S4) fun v5 S6 => (xB (f_G_setHl N (v5 >>> ((8 : Int32) &&& 31)) S6) fun v7 S8 => (xB (f_P_setFlags N (196 : Int32) ((v5 &&& (255 : Int32)) &&& ((196 : Int32) ^^^ (-1 : Int32))) S8) fun v9 S10 => (some (0, S10))))))
abbrev rm_P_addPair : Room := { frames := 3, cells := 0, slots := 0, locals := 62 }
def f_P_takeFrom_41 (N : Nat) (w0 : Int32) (S : xSt) : xR := xB (f_B_read N w0 S) fun v1 S2 => (xWr S2 10 26 (0 : Int32) v1 fun S3 => (some (0, S3)))
def f_P_takeFrom (N : Nat) (a1 : Int32) (S : xSt) : xR := if a1 = (2 : Int32) then (xB (f_P_nextWord N S) fun v5 S6 => (xB (f_P_readWord N v5 S6) fun v7 S8 => (xB (f_G_setHl N v7 S8) fun v9 S10 => (some (0, S10))))) else (if a1 < (2 : Int32) then (xB (f_G_pair N a1 S) fun v3 S4 => (f_P_takeFrom_41 N v3 S4)) else (xB (f_P_nextWord N S) fun v1 S2 => (f_P_takeFrom_41 N v1 S2)))
abbrev rm_P_takeFrom : Room := { frames := 3, cells := 0, slots := 0, locals := 66 }
def f_P_putAt_66 (N : Nat) (S : xSt) : xR := some (0, S)
def f_P_putAt (N : Nat) (a1 : Int32) (S : xSt) : xR := if a1 < (2 : Int32) then (xB (f_G_pair N a1 S) fun v10 S11 => (xRd S11 10 26 (0 : Int32) fun v12 => (xB (f_B_write N v10 v12 S11) fun v13 S14 => (some (0, S14))))) else (xB (f_P_nextWord N S) fun v1 S2 => (if a1 = (2 : Int32) then (xB (f_G_hl N S2) fun v6 S7 => (xB (f_P_writeWord N v1 v6 S7) fun v8 S9 => (f_P_putAt_66 N S9))) else (xRd S2 10 26 (0 : Int32) fun v3 => (xB (f_B_write N v1 v3 S2) fun v4 S5 => (f_P_putAt_66 N S5)))))
abbrev rm_P_putAt : Room := { frames := 3, cells := 0, slots := 0, locals := 67 }
def f_A_plus (N : Nat) (a0 a1 a2 : Int32) (S : xSt) : xR := xV ((a0 + a1) + a2) fun b1 => (xV (((a0 ^^^ b1) &&& (a1 ^^^ b1)) &&& (128 : Int32)) fun b2 => (xB (f_A_by N (b1 &&& (255 : Int32)) S) fun v3 S4 => (xV (((v3 ||| (((a0 ^^^ a1) ^^^ b1) &&& (16 : Int32))) ||| (b2 >>> ((5 : Int32) &&& 31))) ||| ((b1 >>> ((8 : Int32) &&& 31)) &&& (1 : Int32))) fun b5 => (some ((((b1 &&& (255 : Int32)) <<< ((8 : Int32) &&& 31)) ||| b5), S4)))))
abbrev rm_A_plus : Room := { frames := 1, cells := 0, slots := 0, locals := 20 }
def f_P_count_25 (N : Nat) (a1 w0 : Int32) (S : xSt) : xR := xB (f_P_setFlags N (1 : Int32) ((w0 &&& (255 : Int32)) &&& (-2 : Int32)) S) fun v1 S2 => (xB (f_P_setOperand N a1 (w0 >>> ((8 : Int32) &&& 31)) S2) fun v3 S4 => (some (0, S4)))
def f_P_count (N : Nat) (a1 a2 : Int32) (S : xSt) : xR := xB (f_P_operand N a1 S) fun v1 S2 => (if a2 = 0 then (xB (f_A_plus N v1 (1 : Int32) (0 : Int32) S2) fun v3 S4 => (f_P_count_25 N a1 v3 S4)) else (xB (f_A_minus N v1 (1 : Int32) (0 : Int32) S2) fun v5 S6 => (f_P_count_25 N a1 v5 S6)))
abbrev rm_P_count : Room := { frames := 3, cells := 0, slots := 0, locals := 67 }
def f_A_adjusted_64 (N : Nat) (a0 a1 a3 w0 : Int32) (S : xSt) : xR := xV (w0 &&& (255 : Int32)) fun b1 => (xB (f_A_byWithParity N b1 S) fun v2 S3 => (some ((((((b1 <<< ((8 : Int32) &&& 31)) ||| v2) ||| ((a0 ^^^ b1) &&& (16 : Int32))) ||| (a1 &&& (2 : Int32))) ||| a3), S3)))
def f_A_adjusted_41 (N : Nat) (a0 a1 a2 w0 : Int32) (S : xSt) : xR := xV (a2 + ((96 : Int32) * w0)) fun b1 => (if (a1 &&& (2 : Int32)) = 0 then (f_A_adjusted_64 N a0 a1 w0 (a0 + b1) S) else (f_A_adjusted_64 N a0 a1 w0 (a0 - b1) S))
def f_A_adjusted_36 (N : Nat) (a0 a1 a2 : Int32) (S : xSt) : xR := f_A_adjusted_41 N a0 a1 a2 (1 : Int32) S
def f_A_adjusted_22 (N : Nat) (a0 a1 w0 : Int32) (S : xSt) : xR := if (a1 &&& (1 : Int32)) = 0 then (if (153 : Int32) < a0 then (f_A_adjusted_36 N a0 a1 w0 S) else (f_A_adjusted_41 N a0 a1 w0 (0 : Int32) S)) else (f_A_adjusted_36 N a0 a1 w0 S)
def f_A_adjusted_16 (N : Nat) (a0 a1 : Int32) (S : xSt) : xR := f_A_adjusted_22 N a0 a1 (6 : Int32) S
def f_A_adjusted (N : Nat) (a0 a1 : Int32) (S : xSt) : xR := if (a1 &&& (16 : Int32)) = 0 then (if (9 : Int32) < (a0 &&& (15 : Int32)) then (f_A_adjusted_16 N a0 a1 S) else (f_A_adjusted_22 N a0 a1 (0 : Int32) S)) else (f_A_adjusted_16 N a0 a1 S)
abbrev rm_A_adjusted : Room := { frames := 2, cells := 0, slots := 0, locals := 40 }
def f_P_changeA_177 (N : Nat) (S : xSt) : xR := some (0, S)
def f_P_changeA_133 (N : Nat) (w1 w2 w3 : Int32) (S : xSt) : xR := xB (f_P_setFlags N w1 (w2 ||| w3) S) fun v1 S2 => (f_P_changeA_177 N S2)
def f_P_changeA (N : Nat) (a1 : Int32) (S : xSt) : xR := xRd S 10 26 (0 : Int32) fun v1 => (if a1 = (4 : Int32) then (xRd S 10 26 (1 : Int32) fun v3 => (xB (f_A_adjusted N v1 v3 S) fun v4 S5 => (xB (f_G_split N (0 : Int32) v4 S5) fun v6 S7 => (f_P_changeA_177 N S7)))) else (if a1 = (5 : Int32) then (xWr S 10 26 (0 : Int32) (v1 ^^^ (255 : Int32)) fun S9 => (xB (f_P_setFlags N ((196 : Int32) ||| (1 : Int32)) ((((v1 ^^^ (255 : Int32)) &&& (40 : Int32)) ||| (16 : Int32)) ||| (2 : Int32)) S9) fun v10 S11 => (f_P_changeA_177 N S11))) else (if a1 = (6 : Int32) then (xB (f_P_setFlags N (196 : Int32) ((v1 &&& (40 : Int32)) ||| (1 : Int32)) S) fun v13 S14 => (f_P_changeA_177 N S14)) else (if a1 = (7 : Int32) then (xB (f_P_carry N S) fun v16 S17 => (if v16 = (1 : Int32) then (f_P_changeA_133 N (196 : Int32) (v1 &&& (40 : Int32)) (16 : Int32) S17) else (f_P_changeA_133 N (196 : Int32) (v1 &&& (40 : Int32)) (1 : Int32) S17))) else ((xB (f_P_carry N S) fun v18 S19 => (xB (f_A_turned N a1 v1 v18 S19) fun v20 S21 => (xWr S21 10 26 (0 : Int32) (v20 >>> ((8 : Int32) &&& 31)) fun S22 => (xB (f_P_setFlags N (196 : Int32) ((v20 &&& (255 : Int32)) &&& ((196 : Int32) ^^^ (-1 : Int32))) S22) fun v23 S24 => (f_P_changeA_177 N S24))))))))))
abbrev rm_P_changeA : Room := { frames := 3, cells := 0, slots := 0, locals := 66 }
def f_P_doFirst_182 (N : Nat) (S : xSt) : xR := some (0, S)
def f_P_doFirst_159 (N : Nat) (w1 w2 : Int32) (S : xSt) : xR := xB (f_P_count N w1 w2 S) fun v1 S2 => (f_P_doFirst_182 N S2)
def f_P_doFirst_147 (N : Nat) (a1 a2 : Int32) (S : xSt) : xR := if a2 = (5 : Int32) then (f_P_doFirst_159 N a1 (1 : Int32) S) else (f_P_doFirst_159 N a1 (0 : Int32) S)
def f_P_doFirst_140 (N : Nat) (w1 w2 w3 : Int32) (S : xSt) : xR := xB (f_G_setPair N w1 (w2 + w3) S) fun v1 S2 => (f_P_doFirst_182 N S2)
def f_P_doFirst_16 (N : Nat) (a1 a2 a3 w0 : Int32) (S : xSt) : xR := if a2 = (0 : Int32) then (xB (f_P_moveNear N a1 S) fun v2 S3 => (f_P_doFirst_182 N S3)) else (if a2 = (1 : Int32) then (if w0 = 0 then (xB (f_P_nextWord N S) fun v5 S6 => (xB (f_G_setPair N a3 v5 S6) fun v7 S8 => (f_P_doFirst_182 N S8))) else (xB (f_P_addPair N a3 S) fun v9 S10 => (f_P_doFirst_182 N S10))) else (if a2 = (2 : Int32) then (if w0 = 0 then (xB (f_P_putAt N a3 S) fun v12 S13 => (f_P_doFirst_182 N S13)) else (xB (f_P_takeFrom N a3 S) fun v14 S15 => (f_P_doFirst_182 N S15))) else (if a2 = (3 : Int32) then (xB (f_G_pair N a3 S) fun v17 S18 => (if w0 = 0 then (f_P_doFirst_140 N a3 v17 (1 : Int32) S18) else (f_P_doFirst_140 N a3 v17 (-1 : Int32) S18))) else (if a2 = (4 : Int32) then (f_P_doFirst_147 N a1 a2 S) else (if a2 = (5 : Int32) then (f_P_doFirst_147 N a1 a2 S) else (if a2 = (6 : Int32) then (xB (f_P_nextByte N S) fun v22 S23 => (xB (f_P_setOperand N a1 v22 S23) fun v24 S25 => (f_P_doFirst_182 N S25))) else ((xB (f_P_changeA N a1 S) fun v26 S27 => (f_P_doFirst_182 N S27)))))))))
def f_P_doFirst (N : Nat) (a1 a2 : Int32) (S : xSt) : xR := xV (a1 >>> ((1 : Int32) &&& 31)) fun b1 => (if (a1 &&& (1 : Int32)) = (1 : Int32) then (f_P_doFirst_16 N a1 a2 b1 (1 : Int32) S) else (f_P_doFirst_16 N a1 a2 b1 (0 : Int32) S))
abbrev rm_P_doFirst : Room := { frames := 4, cells := 0, slots := 0, locals := 91 }
def f_A_logic (N : Nat) (a0 : Int32) (S : xSt) : xR := xB (f_A_byWithParity N a0 S) fun v1 S2 => (some (((a0 <<< ((8 : Int32) &&& 31)) ||| v1), S2))
abbrev rm_A_logic : Room := { frames := 2, cells := 0, slots := 0, locals := 40 }
def f_A_compared (N : Nat) (a0 a1 : Int32) (S : xSt) : xR := xB (f_A_minus N a0 a1 (0 : Int32) S) fun v1 S2 => (some ((((a0 <<< ((8 : Int32) &&& 31)) ||| ((v1 &&& (255 : Int32)) &&& (-41 : Int32))) ||| (a1 &&& (40 : Int32))), S2))
abbrev rm_A_compared : Room := { frames := 2, cells := 0, slots := 0, locals := 45 }
def f_P_operate_145 (N : Nat) (a4 : Int32) (S : xSt) : xR := xB (f_G_split N (0 : Int32) a4 S) fun v1 S2 => (some (0, S2))
def f_P_operate (N : Nat) (a1 a2 : Int32) (S : xSt) : xR := xRd S 10 26 (0 : Int32) fun v1 => (if a1 = (0 : Int32) then (xB (f_A_plus N v1 a2 (0 : Int32) S) fun v3 S4 => (f_P_operate_145 N v3 S4)) else (if a1 = (1 : Int32) then (xB (f_P_carry N S) fun v6 S7 => (xB (f_A_plus N v1 a2 v6 S7) fun v8 S9 => (f_P_operate_145 N v8 S9))) else (if a1 = (2 : Int32) then (xB (f_A_minus N v1 a2 (0 : Int32) S) fun v11 S12 => (f_P_operate_145 N v11 S12)) else (if a1 = (3 : Int32) then (xB (f_P_carry N S) fun v14 S15 => (xB (f_A_minus N v1 a2 v14 S15) fun v16 S17 => (f_P_operate_145 N v16 S17))) else (if a1 = (4 : Int32) then (xB (f_A_logic N (v1 &&& a2) S) fun v19 S20 => (xV (v19 ||| (16 : Int32)) fun b21 => (f_P_operate_145 N b21 S20))) else (if a1 = (5 : Int32) then (xB (f_A_logic N (v1 ^^^ a2) S) fun v23 S24 => (f_P_operate_145 N v23 S24)) else (if a1 = (6 : Int32) then (xB (f_A_logic N (v1 ||| a2) S) fun v26 S27 => (f_P_operate_145 N v26 S27)) else ((xB (f_A_compared N v1 a2 S) fun v28 S29 => (f_P_operate_145 N v28 S29))))))))))
abbrev rm_P_operate : Room := { frames := 3, cells := 0, slots := 0, locals := 66 }
def f_P_popOrGo_134 (N : Nat) (S : xSt) : xR := some (0, S)
def f_P_popOrGo_120 (N : Nat) (a1 : Int32) (S : xSt) : xR := xB (f_P_pop N S) fun v1 S2 => (xB (f_G_setPair N (a1 >>> ((1 : Int32) &&& 31)) v1 S2) fun v3 S4 => (f_P_popOrGo_134 N S4))
def f_P_popOrGo (N : Nat) (a1 : Int32) (S : xSt) : xR := if a1 = (1 : Int32) then (xB (f_P_pop N S) fun v2 S3 => (xWr S3 10 26 (21 : Int32) v2 fun S4 => (f_P_popOrGo_134 N S4))) else (if a1 = (2 : Int32) then (f_P_popOrGo_120 N a1 S) else (if a1 = (3 : Int32) then (xB (f_G_swapWithSecond N (2 : Int32) (7 : Int32) S) fun v7 S8 => (f_P_popOrGo_134 N S8)) else (if a1 = (4 : Int32) then (f_P_popOrGo_120 N a1 S) else (if a1 = (5 : Int32) then (xB (f_G_hl N S) fun v11 S12 => (xWr S12 10 26 (21 : Int32) v11 fun S13 => (f_P_popOrGo_134 N S13))) else (if a1 = (6 : Int32) then (xB (f_P_pop N S) fun v15 S16 => (xB (f_G_split N (0 : Int32) v15 S16) fun v17 S18 => (f_P_popOrGo_134 N S18))) else (if a1 = (7 : Int32) then (xB (f_G_hl N S) fun v20 S21 => (xWr S21 10 26 (20 : Int32) v20 fun S22 => (f_P_popOrGo_134 N S22))) else ((f_P_popOrGo_120 N a1 S))))))))
abbrev rm_P_popOrGo : Room := { frames := 4, cells := 0, slots := 0, locals := 87 }
def f_P_doMixed_219 (N : Nat) (S : xSt) : xR := some (0, S)
def f_P_doMixed_213 (N : Nat) (w1 : Int32) (S : xSt) : xR := xBo w1 (xPu S 2 4 w1 fun S1 => (f_P_doMixed_219 N S1))
def f_P_doMixed_179 (N : Nat) (a1 : Int32) (S : xSt) : xR := xWr S 10 26 (22 : Int32) (a1 - (6 : Int32)) fun S1 => (xWr S1 10 26 (23 : Int32) (a1 - (6 : Int32)) fun S2 => (if a1 = (7 : Int32) then (f_P_doMixed_213 N (1 : Int32) S2) else (f_P_doMixed_213 N (0 : Int32) S2)))
def f_P_doMixed (N : Nat) (a1 : Int32) (S : xSt) : xR := xRd S 10 26 (0 : Int32) fun v1 => (if a1 = (0 : Int32) then (xB (f_P_nextWord N S) fun v3 S4 => (xWr S4 10 26 (21 : Int32) v3 fun S5 => (f_P_doMixed_219 N S5))) else (if a1 = (1 : Int32) then (f_P_doMixed_219 N S) else (if a1 = (2 : Int32) then (xB (f_P_nextByte N S) fun v8 S9 => (xB (f_B_writePort N ((v1 <<< ((8 : Int32) &&& 31)) ||| v8) v1 S9) fun v10 S11 => (f_P_doMixed_219 N S11))) else (if a1 = (3 : Int32) then (xB (f_P_nextByte N S) fun v13 S14 => (xB (f_B_readPort N ((v1 <<< ((8 : Int32) &&& 31)) ||| v13) S14) fun v15 S16 => (xWr S16 10 26 (0 : Int32) v15 fun S17 => (f_P_doMixed_219 N S17)))) else (if a1 = (4 : Int32) then (xRd S 10 26 (20 : Int32) fun v19 => (xB (f_P_readWord N v19 S) fun v20 S21 => (xRd S21 10 26 (20 : Int32) fun v22 => (xB (f_G_hl N S21) fun v23 S24 => (xB (f_P_writeWord N v22 v23 S24) fun v25 S26 => (xB (f_G_setHl N v20 S26) fun v27 S28 => (f_P_doMixed_219 N S28))))))) else (if a1 = (5 : Int32) then (xB (f_G_swap N (4 : Int32) (6 : Int32) S) fun v30 S31 => (xB (f_G_swap N (5 : Int32) (7 : Int32) S31) fun v32 S33 => (f_P_doMixed_219 N S33))) else (if a1 = (6 : Int32) then (f_P_doMixed_179 N a1 S) else (if a1 = (7 : Int32) then (f_P_doMixed_179 N a1 S) else ((f_P_doMixed_219 N S))))))))))
abbrev rm_P_doMixed : Room := { frames := 3, cells := 0, slots := 0, locals := 67 }
def f_P_call (N : Nat) (a1 : Int32) (S : xSt) : xR := xRd S 10 26 (21 : Int32) fun v1 => (xB (f_P_push N v1 S) fun v2 S3 => (xWr S3 10 26 (21 : Int32) a1 fun S4 => (some (0, S4))))
abbrev rm_P_call : Room := { frames := 3, cells := 0, slots := 0, locals := 66 }
def f_P_pushOrCall_49 (N : Nat) (S : xSt) : xR := some (0, S)
def f_P_pushOrCall_46 (N : Nat) (w1 : Int32) (S : xSt) : xR := xB (f_P_push N w1 S) fun v1 S2 => (f_P_pushOrCall_49 N S2)
def f_P_pushOrCall (N : Nat) (a1 : Int32) (S : xSt) : xR := if (a1 &&& (1 : Int32)) = (1 : Int32) then (xB (f_P_nextWord N S) fun v5 S6 => (xB (f_P_call N v5 S6) fun v7 S8 => (f_P_pushOrCall_49 N S8))) else (if a1 = (6 : Int32) then (xB (f_G_joined N (0 : Int32) S) fun v3 S4 => (f_P_pushOrCall_46 N v3 S4)) else (xB (f_G_pair N (a1 >>> ((1 : Int32) &&& 31)) S) fun v1 S2 => (f_P_pushOrCall_46 N v1 S2)))
abbrev rm_P_pushOrCall : Room := { frames := 4, cells := 0, slots := 0, locals := 87 }
def f_P_doLast_141 (N : Nat) (S : xSt) : xR := some (0, S)
def f_P_doLast_133 (N : Nat) (a1 : Int32) (S : xSt) : xR := xB (f_P_call N ((8 : Int32) * a1) S) fun v1 S2 => (f_P_doLast_141 N S2)
def f_P_doLast_18 (N : Nat) (a1 a2 w0 : Int32) (S : xSt) : xR := if a2 = (0 : Int32) then (xB (f_P_condition N a1 S) fun v2 S3 => (if v2 = 0 then (f_P_doLast_141 N S3) else (xB (f_P_pop N S3) fun v4 S5 => (xWr S5 10 26 (21 : Int32) v4 fun S6 => (f_P_doLast_141 N S6))))) else (if a2 = (1 : Int32) then (f_P_doLast_133 N a1 S) else (if a2 = (2 : Int32) then (xB (f_P_condition N a1 S) fun v9 S10 => (if v9 = 0 then (f_P_doLast_141 N S10) else (xWr S10 10 26 (21 : Int32) w0 fun S11 => (f_P_doLast_141 N S11)))) else (if a2 = (3 : Int32) then (f_P_doLast_133 N a1 S) else (if a2 = (4 : Int32) then (xB (f_P_condition N a1 S) fun v14 S15 => (if v14 = 0 then (f_P_doLast_141 N S15) else (xB (f_P_call N w0 S15) fun v16 S17 => (f_P_doLast_141 N S17)))) else (if a2 = (5 : Int32) then (f_P_doLast_133 N a1 S) else (if a2 = (6 : Int32) then (xB (f_P_nextByte N S) fun v20 S21 => (xB (f_P_operate N a1 v20 S21) fun v22 S23 => (f_P_doLast_141 N S23))) else ((f_P_doLast_133 N a1 S))))))))
def f_P_doLast_10 (N : Nat) (a1 a2 : Int32) (S : xSt) : xR := xB (f_P_nextWord N S) fun v1 S2 => (f_P_doLast_18 N a1 a2 v1 S2)
def f_P_doLast (N : Nat) (a1 a2 : Int32) (S : xSt) : xR := if a2 = (2 : Int32) then (f_P_doLast_10 N a1 a2 S) else (if a2 = (4 : Int32) then (f_P_doLast_10 N a1 a2 S) else (f_P_doLast_18 N a1 a2 (0 : Int32) S))
abbrev rm_P_doLast : Room := { frames := 4, cells := 0, slots := 0, locals := 90 }
def f_P_next_292 (N : Nat) (S : xSt) : xR := some (0, S)
def f_P_next_114 (N : Nat) (a2 : Int32) (S : xSt) : xR := xV ((a2 >>> ((3 : Int32) &&& 31)) &&& (7 : Int32)) fun b1 => (xV (a2 &&& (7 : Int32)) fun b2 => (if a2 = (203 : Int32) then (xB (f_P_rotate N S) fun v27 S28 => (f_P_next_292 N S28)) else (if a2 = (237 : Int32) then (xPu S 5 1 (6 : Int32) fun S22 => (xB (f_P_fetch N S22) fun v23 S24 => (xB (f_P_more N v23 S24) fun v25 S26 => (f_P_next_292 N S26)))) else (if a2 = (118 : Int32) then (xWr S 10 26 (25 : Int32) (1 : Int32) fun S21 => (f_P_next_292 N S21)) else (if a2 < (64 : Int32) then (xB (f_P_doFirst N b1 b2 S) fun v19 S20 => (f_P_next_292 N S20)) else (if a2 < (128 : Int32) then (xB (f_P_operand N b2 S) fun v15 S16 => (xB (f_P_setOperand N b1 v15 S16) fun v17 S18 => (f_P_next_292 N S18))) else (if a2 < (192 : Int32) then (xB (f_P_operand N b2 S) fun v11 S12 => (xB (f_P_operate N b1 v11 S12) fun v13 S14 => (f_P_next_292 N S14))) else (if b2 = (1 : Int32) then (xB (f_P_popOrGo N b1 S) fun v9 S10 => (f_P_next_292 N S10)) else (if b2 = (3 : Int32) then (xB (f_P_doMixed N b1 S) fun v7 S8 => (f_P_next_292 N S8)) else (if b2 = (5 : Int32) then (xB (f_P_pushOrCall N b1 S) fun v5 S6 => (f_P_next_292 N S6)) else (xB (f_P_doLast N b1 b2 S) fun v3 S4 => (f_P_next_292 N S4))))))))))))
def f_P_next_59 (N : Nat) (S : xSt) : xR := xRd S 10 26 (25 : Int32) fun v1 => (if v1 = (1 : Int32) then (xRd S 10 26 (21 : Int32) fun v10 => (xB (f_B_fetchAt N v10 S) fun v11 S12 => (xB (f_P_refresh N S12) fun v13 S14 => (some (0, S14))))) else (xB (f_P_fetchBehindPrefixes N S) fun v2 S3 => (xB (f_P_isPrefix N v2 S3) fun v4 S5 => (if v4 = 0 then (xB (f_P_hasM N v2 S5) fun v6 S7 => (if v6 = 0 then (f_P_next_114 N v2 S7) else (xB (f_P_findM N S7) fun v8 S9 => (f_P_next_114 N v2 S9)))) else (some (0, S5))))))
def f_P_next_23 (N : Nat) (w0 : Int32) (S : xSt) : xR := xBo (0 : Int32) (xPu S 2 4 (0 : Int32) fun S1 => (xPu S1 5 1 (6 : Int32) fun S2 => (if w0 = 0 then (f_P_next_59 N S2) else (xB (f_B_tickOfFrame N S2) fun v3 S4 => (if v3 < (32 : Int32) then (xB (f_P_takeInterrupt N S4) fun v5 S6 => (some (0, S6))) else (f_P_next_59 N S4))))))
def f_P_next_22 (N : Nat) (S : xSt) : xR := f_P_next_23 N (0 : Int32) S
def f_P_next (N : Nat) (S : xSt) : xR := if (S 2 4) = 0 then (xRd S 10 26 (22 : Int32) fun v1 => (if v1 = (1 : Int32) then (f_P_next_23 N (1 : Int32) S) else (f_P_next_22 N S))) else (f_P_next_22 N S)
abbrev rm_P_next : Room := { frames := 5, cells := 0, slots := 0, locals := 116 }
def f_H_step_11 (N : Nat) (S : xSt) : xR := some ((-1 : Int32), S)
def f_H_step_23 (N : Nat) : Nat → Int32 → Int32 → Int32 → xSt → xR
  | 0, _, _, _, _ => none
  | n + 1, a1, a2, a3, S => if a3 < a1 then (xB (f_P_next N S) fun v1 S2 => (f_H_step_23 N n a1 a2 (a3 + (1 : Int32)) S2)) else (some (((S 1 4) - a2), S))
def f_H_step (N : Nat) (a1 : Int32) (S : xSt) : xR := if a1 < (1 : Int32) then (f_H_step_11 N S) else (if (100 : Int32) < a1 then (f_H_step_11 N S) else (xV (S 1 4) fun b1 => (f_H_step_23 N N a1 b1 (0 : Int32) S)))
abbrev rm_H_step : Room := { frames := 6, cells := 0, slots := 0, locals := 140 }
def f_B_frames (N : Nat) (S : xSt) : xR := some (((S 1 4) >>> ((12 : Int32) &&& 31)), S)
abbrev rm_B_frames : Room := { frames := 0, cells := 0, slots := 0, locals := 0 }
def f_H_frame_41 (N : Nat) (a2 : Int32) (S : xSt) : xR := some (a2, S)
def f_H_frame_10 (N : Nat) : Nat → Int32 → Int32 → xSt → xR
  | 0, _, _, _ => none
  | n + 1, a1, a2, S => if a2 < (1100 : Int32) then (xB (f_B_frames N S) fun v1 S2 => (if v1 = a1 then (xB (f_P_next N S2) fun v3 S4 => (f_H_frame_10 N n a1 (a2 + (1 : Int32)) S4)) else (f_H_frame_41 N a2 S2))) else (f_H_frame_41 N a2 S)
def f_H_frame (N : Nat) (S : xSt) : xR := xB (f_B_frames N S) fun v1 S2 => (f_H_frame_10 N N v1 (0 : Int32) S2)
abbrev rm_H_frame : Room := { frames := 6, cells := 0, slots := 0, locals := 140 }
def f_H_look_121 (N : Nat) (w0 : Int32) (S : xSt) : xR := some (w0, S)
def f_H_look (N : Nat) (a1 : Int32) (S : xSt) : xR := xB (f_T_follow N (S 1 4) S) fun v1 S2 => (if a1 = (0 : Int32) then (xB (f_B_frames N S2) fun v4 S5 => (some (v4, S5))) else (if a1 = (1 : Int32) then (xB (f_B_tickOfFrame N S2) fun v7 S8 => (some (v7, S8))) else (if a1 = (2 : Int32) then (some ((S2 1 5), S2)) else (if a1 = (3 : Int32) then (some ((S2 1 7), S2)) else (if a1 = (4 : Int32) then (xB (f_T_level N S2) fun v12 S13 => (some (v12, S13))) else (if a1 = (5 : Int32) then (if (S2 4 4) = 0 then (f_H_look_121 N (0 : Int32) S2) else (f_H_look_121 N (1 : Int32) S2)) else (if a1 = (6 : Int32) then (some ((S2 4 3), S2)) else ((some ((-1 : Int32), S2))))))))))
abbrev rm_H_look : Room := { frames := 1, cells := 0, slots := 0, locals := 21 }
def f_H_stripe_10 (N : Nat) (S : xSt) : xR := some ((-1 : Int32), S)
def f_H_stripe (N : Nat) (a1 : Int32) (S : xSt) : xR := if a1 < 0 then (f_H_stripe_10 N S) else (if a1 < (64 : Int32) then (xRd S 7 64 a1 fun v1 => (some (v1, S))) else (f_H_stripe_10 N S))
abbrev rm_H_stripe : Room := { frames := 0, cells := 0, slots := 0, locals := 0 }
