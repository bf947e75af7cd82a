theorem ka_int : Cond.arrayClass .int ∈ gtb := gtb_in (List.mem_of_getElem? (i := 120) (by decide +kernel)) rfl

theorem ka_boolean : Cond.arrayClass .boolean ∈ gtb := gtb_in (List.mem_of_getElem? (i := 241) (by decide +kernel)) rfl

theorem ka_char : Cond.arrayClass .char ∈ gtb := gtb_in (List.mem_of_getElem? (i := 1009) (by decide +kernel)) rfl

theorem ka_long : Cond.arrayClass .long ∈ gtb := gtb_in (List.mem_of_getElem? (i := 327) (by decide +kernel)) rfl

theorem ko_i : Cond.instanceMethod Lib.objectInit ∈ gtb := gtb_in (List.mem_of_getElem? (i := 88) (by decide +kernel)) rfl

theorem ko_c : Cond.code Lib.objectInit ⟨#[0xb1]⟩ 1 none ∈ gtb := gtb_in (List.mem_of_getElem? (i := 89) (by decide +kernel)) rfl

theorem ky_X0 : Cond.initialized RX0 ∈ gtb := gtb_in (List.mem_of_getElem? (i := 69) (by decide +kernel)) rfl

theorem kn_X0 : Cond.instantiable RX0 5 ∈ gtb := gtb_in (List.mem_of_getElem? (i := 267) (by decide +kernel)) rfl

theorem kx_X0 : Cond.instanceMethod yX0_init ∈ gtb := gtb_in (List.mem_of_getElem? (i := 269) (by decide +kernel)) rfl

theorem ko_X0 : Cond.methodLink RX0 3 Lib.objectInit ∈ gtb := gtb_in (List.mem_of_getElem? (i := 271) (by decide +kernel)) rfl

theorem ky_X1 : Cond.initialized RX1 ∈ gtb := gtb_in (List.mem_of_getElem? (i := 70) (by decide +kernel)) rfl

theorem kn_X1 : Cond.instantiable RX1 4 ∈ gtb := gtb_in (List.mem_of_getElem? (i := 290) (by decide +kernel)) rfl

theorem kx_X1 : Cond.instanceMethod yX1_init ∈ gtb := gtb_in (List.mem_of_getElem? (i := 292) (by decide +kernel)) rfl

theorem ko_X1 : Cond.methodLink RX1 3 Lib.objectInit ∈ gtb := gtb_in (List.mem_of_getElem? (i := 294) (by decide +kernel)) rfl

theorem ky_X2 : Cond.initialized RX2 ∈ gtb := gtb_in (List.mem_of_getElem? (i := 66) (by decide +kernel)) rfl

theorem kn_X2 : Cond.instantiable RX2 7 ∈ gtb := gtb_in (List.mem_of_getElem? (i := 121) (by decide +kernel)) rfl

theorem kx_X2 : Cond.instanceMethod yX2_init ∈ gtb := gtb_in (List.mem_of_getElem? (i := 123) (by decide +kernel)) rfl

theorem ko_X2 : Cond.methodLink RX2 3 Lib.objectInit ∈ gtb := gtb_in (List.mem_of_getElem? (i := 125) (by decide +kernel)) rfl

theorem ky_X3 : Cond.initialized RX3 ∈ gtb := gtb_in (List.mem_of_getElem? (i := 65) (by decide +kernel)) rfl

theorem kn_X3 : Cond.instantiable RX3 4 ∈ gtb := gtb_in (List.mem_of_getElem? (i := 99) (by decide +kernel)) rfl

theorem kx_X3 : Cond.instanceMethod yX3_init ∈ gtb := gtb_in (List.mem_of_getElem? (i := 101) (by decide +kernel)) rfl

theorem ko_X3 : Cond.methodLink RX3 3 Lib.objectInit ∈ gtb := gtb_in (List.mem_of_getElem? (i := 103) (by decide +kernel)) rfl

theorem ky_X4 : Cond.initialized RX4 ∈ gtb := gtb_in (List.mem_of_getElem? (i := 71) (by decide +kernel)) rfl

theorem kn_X4 : Cond.instantiable RX4 3 ∈ gtb := gtb_in (List.mem_of_getElem? (i := 310) (by decide +kernel)) rfl

theorem kx_X4 : Cond.instanceMethod yX4_init ∈ gtb := gtb_in (List.mem_of_getElem? (i := 312) (by decide +kernel)) rfl

theorem ko_X4 : Cond.methodLink RX4 3 Lib.objectInit ∈ gtb := gtb_in (List.mem_of_getElem? (i := 314) (by decide +kernel)) rfl

theorem ky_X5 : Cond.initialized RX5 ∈ gtb := gtb_in (List.mem_of_getElem? (i := 68) (by decide +kernel)) rfl

theorem kn_X5 : Cond.instantiable RX5 4 ∈ gtb := gtb_in (List.mem_of_getElem? (i := 243) (by decide +kernel)) rfl

theorem kx_X5 : Cond.instanceMethod yX5_init ∈ gtb := gtb_in (List.mem_of_getElem? (i := 245) (by decide +kernel)) rfl

theorem ko_X5 : Cond.methodLink RX5 3 Lib.objectInit ∈ gtb := gtb_in (List.mem_of_getElem? (i := 247) (by decide +kernel)) rfl

theorem ky_X6 : Cond.initialized RX6 ∈ gtb := gtb_in (List.mem_of_getElem? (i := 67) (by decide +kernel)) rfl

theorem kn_X6 : Cond.instantiable RX6 6 ∈ gtb := gtb_in (List.mem_of_getElem? (i := 217) (by decide +kernel)) rfl

theorem kx_X6 : Cond.instanceMethod yX6_init ∈ gtb := gtb_in (List.mem_of_getElem? (i := 219) (by decide +kernel)) rfl

theorem ko_X6 : Cond.methodLink RX6 3 Lib.objectInit ∈ gtb := gtb_in (List.mem_of_getElem? (i := 221) (by decide +kernel)) rfl

theorem ky_X7 : Cond.initialized RX7 ∈ gtb := gtb_in (List.mem_of_getElem? (i := 64) (by decide +kernel)) rfl

theorem kn_X7 : Cond.instantiable RX7 12 ∈ gtb := gtb_in (List.mem_of_getElem? (i := 91) (by decide +kernel)) rfl

theorem kx_X7 : Cond.instanceMethod yX7_init ∈ gtb := gtb_in (List.mem_of_getElem? (i := 93) (by decide +kernel)) rfl

theorem ko_X7 : Cond.methodLink RX7 3 Lib.objectInit ∈ gtb := gtb_in (List.mem_of_getElem? (i := 95) (by decide +kernel)) rfl

theorem ky_X8 : Cond.initialized RX8 ∈ gtb := gtb_in (List.mem_of_getElem? (i := 63) (by decide +kernel)) rfl

theorem kn_X8 : Cond.instantiable RX8 10 ∈ gtb := gtb_in (List.mem_of_getElem? (i := 83) (by decide +kernel)) rfl

theorem kx_X8 : Cond.instanceMethod yX8_init ∈ gtb := gtb_in (List.mem_of_getElem? (i := 85) (by decide +kernel)) rfl

theorem ko_X8 : Cond.methodLink RX8 5 Lib.objectInit ∈ gtb := gtb_in (List.mem_of_getElem? (i := 87) (by decide +kernel)) rfl

theorem ky_X9 : Cond.initialized RX9 ∈ gtb := gtb_in (List.mem_of_getElem? (i := 72) (by decide +kernel)) rfl

theorem kn_X9 : Cond.instantiable RX9 36 ∈ gtb := gtb_in (List.mem_of_getElem? (i := 895) (by decide +kernel)) rfl

theorem kx_X9 : Cond.instanceMethod yX9_init ∈ gtb := gtb_in (List.mem_of_getElem? (i := 897) (by decide +kernel)) rfl

theorem ko_X9 : Cond.methodLink RX9 3 Lib.objectInit ∈ gtb := gtb_in (List.mem_of_getElem? (i := 899) (by decide +kernel)) rfl

theorem kl_L_7 : Cond.classLink RL 7 RX8 ∈ gtb := gtb_in (List.mem_of_getElem? (i := 82) (by decide +kernel)) rfl

theorem kl_X8_11 : Cond.classLink RX8 11 RX7 ∈ gtb := gtb_in (List.mem_of_getElem? (i := 90) (by decide +kernel)) rfl

theorem kl_X7_21 : Cond.classLink RX7 21 RX2 ∈ gtb := gtb_in (List.mem_of_getElem? (i := 96) (by decide +kernel)) rfl

theorem kl_X7_27 : Cond.classLink RX7 27 RX3 ∈ gtb := gtb_in (List.mem_of_getElem? (i := 98) (by decide +kernel)) rfl

theorem kl_X8_24 : Cond.classLink RX8 24 RX6 ∈ gtb := gtb_in (List.mem_of_getElem? (i := 216) (by decide +kernel)) rfl

theorem kl_X8_31 : Cond.classLink RX8 31 RX5 ∈ gtb := gtb_in (List.mem_of_getElem? (i := 242) (by decide +kernel)) rfl

theorem kl_X8_38 : Cond.classLink RX8 38 RX1 ∈ gtb := gtb_in (List.mem_of_getElem? (i := 262) (by decide +kernel)) rfl

theorem kl_X8_44 : Cond.classLink RX8 44 RX4 ∈ gtb := gtb_in (List.mem_of_getElem? (i := 264) (by decide +kernel)) rfl

theorem kl_X8_50 : Cond.classLink RX8 50 RX0 ∈ gtb := gtb_in (List.mem_of_getElem? (i := 266) (by decide +kernel)) rfl

theorem kl_L_10 : Cond.classLink RL 10 RX9 ∈ gtb := gtb_in (List.mem_of_getElem? (i := 894) (by decide +kernel)) rfl

def kd0 : List Value := [.null, .int 0, .int 0, .int 0, .int 0]

theorem kd0_ok : ∀ j, j < 5 → defaultValue (tyX0 j) = vp_V kd0 j := fun j hj => by
  rcases (show j = 0 ∨ j = 1 ∨ j = 2 ∨ j = 3 ∨ j = 4 by omega) with rfl | rfl | rfl | rfl | rfl <;> rfl

def kd1 : List Value := [.int 0, .null, .int 0, .null]

theorem kd1_ok : ∀ j, j < 4 → defaultValue (tyX1 j) = vp_V kd1 j := fun j hj => by
  rcases (show j = 0 ∨ j = 1 ∨ j = 2 ∨ j = 3 by omega) with rfl | rfl | rfl | rfl <;> rfl

def kd2 : List Value := [.int 0, .int 0, .int 0, .int 0, .int 0, .int 0, .null]

theorem kd2_ok : ∀ j, j < 7 → defaultValue (tyX2 j) = vp_V kd2 j := fun j hj => by
  rcases (show j = 0 ∨ j = 1 ∨ j = 2 ∨ j = 3 ∨ j = 4 ∨ j = 5 ∨ j = 6 by omega) with rfl | rfl | rfl | rfl | rfl | rfl | rfl <;> rfl

def kd3 : List Value := [.null, .null, .null, .int 0]

theorem kd3_ok : ∀ j, j < 4 → defaultValue (tyX3 j) = vp_V kd3 j := fun j hj => by
  rcases (show j = 0 ∨ j = 1 ∨ j = 2 ∨ j = 3 by omega) with rfl | rfl | rfl | rfl <;> rfl

def kd4 : List Value := [.int 0, .null, .int 0]

theorem kd4_ok : ∀ j, j < 3 → defaultValue (tyX4 j) = vp_V kd4 j := fun j hj => by
  rcases (show j = 0 ∨ j = 1 ∨ j = 2 by omega) with rfl | rfl | rfl <;> rfl

def kd5 : List Value := [.null, .int 0, .int 0, .int 0]

theorem kd5_ok : ∀ j, j < 4 → defaultValue (tyX5 j) = vp_V kd5 j := fun j hj => by
  rcases (show j = 0 ∨ j = 1 ∨ j = 2 ∨ j = 3 by omega) with rfl | rfl | rfl | rfl <;> rfl

def kd6 : List Value := [.null, .null, .null, .null, .int 0, .int 0]

theorem kd6_ok : ∀ j, j < 6 → defaultValue (tyX6 j) = vp_V kd6 j := fun j hj => by
  rcases (show j = 0 ∨ j = 1 ∨ j = 2 ∨ j = 3 ∨ j = 4 ∨ j = 5 by omega) with rfl | rfl | rfl | rfl | rfl | rfl <;> rfl

def kd7 : List Value := [.int 0, .null, .null, .null, .int 0, .int 0, .null, .int 0, .null, .null, .null, .null]

theorem kd7_ok : ∀ j, j < 12 → defaultValue (tyX7 j) = vp_V kd7 j := fun j hj => by
  rcases (show j = 0 ∨ j = 1 ∨ j = 2 ∨ j = 3 ∨ j = 4 ∨ j = 5 ∨ j = 6 ∨ j = 7 ∨ j = 8 ∨ j = 9 ∨ j = 10 ∨ j = 11 by omega) with rfl | rfl | rfl | rfl | rfl | rfl | rfl | rfl | rfl | rfl | rfl | rfl <;> rfl

def kd8 : List Value := [.null, .null, .null, .null, .null, .null, .null, .null, .int 0, .int 0]

theorem kd8_ok : ∀ j, j < 10 → defaultValue (tyX8 j) = vp_V kd8 j := fun j hj => by
  rcases (show j = 0 ∨ j = 1 ∨ j = 2 ∨ j = 3 ∨ j = 4 ∨ j = 5 ∨ j = 6 ∨ j = 7 ∨ j = 8 ∨ j = 9 by omega) with rfl | rfl | rfl | rfl | rfl | rfl | rfl | rfl | rfl | rfl <;> rfl

def kd9 : List Value := [.null, .null, .null, .int 0, .null, .int 0, .null, .null, .int 0, .null, .int 0, .int 0, .int 0, .int 0, .int 0, .int 0, .null, .null, .null, .null, .null, .null, .null, .null, .null, .null, .int 0, .null, .null, .null, .null, .int 0, .null, .null, .null, .null]

theorem kd9_ok : ∀ j, j < 36 → defaultValue (tyX9 j) = vp_V kd9 j := fun j hj => by
  rcases (show j = 0 ∨ j = 1 ∨ j = 2 ∨ j = 3 ∨ j = 4 ∨ j = 5 ∨ j = 6 ∨ j = 7 ∨ j = 8 ∨ j = 9 ∨ j = 10 ∨ j = 11 ∨ j = 12 ∨ j = 13 ∨ j = 14 ∨ j = 15 ∨ j = 16 ∨ j = 17 ∨ j = 18 ∨ j = 19 ∨ j = 20 ∨ j = 21 ∨ j = 22 ∨ j = 23 ∨ j = 24 ∨ j = 25 ∨ j = 26 ∨ j = 27 ∨ j = 28 ∨ j = 29 ∨ j = 30 ∨ j = 31 ∨ j = 32 ∨ j = 33 ∨ j = 34 ∨ j = 35 by omega) with rfl | rfl | rfl | rfl | rfl | rfl | rfl | rfl | rfl | rfl | rfl | rfl | rfl | rfl | rfl | rfl | rfl | rfl | rfl | rfl | rfl | rfl | rfl | rfl | rfl | rfl | rfl | rfl | rfl | rfl | rfl | rfl | rfl | rfl | rfl | rfl <;> rfl
