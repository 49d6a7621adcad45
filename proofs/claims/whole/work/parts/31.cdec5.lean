theorem dWa_drawNear_25 : decode cWa_drawNear 25 = .ok (.istore_n 2, 1) := by decide +kernel
theorem dWa_drawNear_26 : decode cWa_drawNear 26 = .ok (.iload_n 2, 1) := by decide +kernel
theorem dWa_drawNear_27 : decode cWa_drawNear 27 = .ok (.ifCond .le 23, 3) := by decide +kernel
theorem dWa_drawNear_30 : decode cWa_drawNear 30 = .ok (.aload_n 0, 1) := by decide +kernel
theorem dWa_drawNear_31 : decode cWa_drawNear 31 = .ok (.getfield 21, 3) := by decide +kernel
theorem dWa_drawNear_34 : decode cWa_drawNear 34 = .ok (.iload_n 1, 1) := by decide +kernel
theorem dWa_drawNear_35 : decode cWa_drawNear 35 = .ok (.aload_n 0, 1) := by decide +kernel
theorem dWa_drawNear_36 : decode cWa_drawNear 36 = .ok (.getfield 29, 3) := by decide +kernel
theorem dWa_drawNear_39 : decode cWa_drawNear 39 = .ok (.ldc 54, 2) := by decide +kernel
theorem dWa_drawNear_41 : decode cWa_drawNear 41 = .ok (.idiv, 1) := by decide +kernel
theorem dWa_drawNear_42 : decode cWa_drawNear 42 = .ok (.iload_n 2, 1) := by decide +kernel
theorem dWa_drawNear_43 : decode cWa_drawNear 43 = .ok (.irem, 1) := by decide +kernel
theorem dWa_drawNear_44 : decode cWa_drawNear 44 = .ok (.invokevirtual 55, 3) := by decide +kernel
theorem dWa_drawNear_47 : decode cWa_drawNear 47 = .ok (.goto 4, 3) := by decide +kernel
theorem dWa_drawNear_50 : decode cWa_drawNear 50 = .ok (.iload_n 1, 1) := by decide +kernel
theorem dWa_drawNear_51 : decode cWa_drawNear 51 = .ok (.ireturn, 1) := by decide +kernel
