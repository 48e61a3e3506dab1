abbrev cX11_wasTold : ByteArray := prog_13_method_13_code
def yX11_wasTold : MethodName := ⟨RX11, "wasTold", "(II)Z"⟩
def wsX11_wasTold : List Cond := .code yX11_wasTold cX11_wasTold 4 (some .boolean) :: ([.fieldLink RX11 179 "ShipOfficeModel" "happened" "I", .fieldLink RX11 40 "ShipOfficeModel" "what" "[I", .fieldLink RX11 43 "ShipOfficeModel" "whose" "[I"] ++ wsX110)
theorem il_X11_wasTold_1 : ∀ w ∈ ([.fieldLink RX11 179 "ShipOfficeModel" "happened" "I", .fieldLink RX11 40 "ShipOfficeModel" "what" "[I", .fieldLink RX11 43 "ShipOfficeModel" "whose" "[I"] : List Cond), w ∈ wsX11_wasTold := fun w h => (List.mem_cons_of_mem _ (List.mem_append_left _ h))
theorem iw_X11_wasTold_1 : Cond.fieldLink RX11 179 "ShipOfficeModel" "happened" "I" ∈ wsX11_wasTold := (mmI il_X11_wasTold_1 0 rfl)
theorem iw_X11_wasTold_2 : Cond.fieldLink RX11 40 "ShipOfficeModel" "what" "[I" ∈ wsX11_wasTold := (mmI il_X11_wasTold_1 1 rfl)
theorem iw_X11_wasTold_3 : Cond.fieldLink RX11 43 "ShipOfficeModel" "whose" "[I" ∈ wsX11_wasTold := (mmI il_X11_wasTold_1 2 rfl)
theorem dX11_wasTold_0 : decode cX11_wasTold 0 = .ok (.iconst 0, 1) := by decide +kernel
theorem dX11_wasTold_1 : decode cX11_wasTold 1 = .ok (.istore_n 3, 1) := by decide +kernel
theorem dX11_wasTold_2 : decode cX11_wasTold 2 = .ok (.iload_n 3, 1) := by decide +kernel
theorem dX11_wasTold_3 : decode cX11_wasTold 3 = .ok (.aload_n 0, 1) := by decide +kernel
theorem dX11_wasTold_4 : decode cX11_wasTold 4 = .ok (.getfield 179, 3) := by decide +kernel
theorem dX11_wasTold_7 : decode cX11_wasTold 7 = .ok (.if_icmp .ge 31, 3) := by decide +kernel
theorem dX11_wasTold_10 : decode cX11_wasTold 10 = .ok (.aload_n 0, 1) := by decide +kernel
theorem dX11_wasTold_11 : decode cX11_wasTold 11 = .ok (.getfield 40, 3) := by decide +kernel
theorem dX11_wasTold_14 : decode cX11_wasTold 14 = .ok (.iload_n 3, 1) := by decide +kernel
theorem dX11_wasTold_15 : decode cX11_wasTold 15 = .ok (.iaload, 1) := by decide +kernel
theorem dX11_wasTold_16 : decode cX11_wasTold 16 = .ok (.iload_n 1, 1) := by decide +kernel
theorem dX11_wasTold_17 : decode cX11_wasTold 17 = .ok (.if_icmp .ne 15, 3) := by decide +kernel
theorem dX11_wasTold_20 : decode cX11_wasTold 20 = .ok (.aload_n 0, 1) := by decide +kernel
theorem dX11_wasTold_21 : decode cX11_wasTold 21 = .ok (.getfield 43, 3) := by decide +kernel
theorem dX11_wasTold_24 : decode cX11_wasTold 24 = .ok (.iload_n 3, 1) := by decide +kernel
theorem dX11_wasTold_25 : decode cX11_wasTold 25 = .ok (.iaload, 1) := by decide +kernel
theorem dX11_wasTold_26 : decode cX11_wasTold 26 = .ok (.iload_n 2, 1) := by decide +kernel
theorem dX11_wasTold_27 : decode cX11_wasTold 27 = .ok (.if_icmp .ne 5, 3) := by decide +kernel
theorem dX11_wasTold_30 : decode cX11_wasTold 30 = .ok (.iconst 1, 1) := by decide +kernel
theorem dX11_wasTold_31 : decode cX11_wasTold 31 = .ok (.ireturn, 1) := by decide +kernel
theorem dX11_wasTold_32 : decode cX11_wasTold 32 = .ok (.iinc 3 1, 3) := by decide +kernel
theorem dX11_wasTold_35 : decode cX11_wasTold 35 = .ok (.goto (-33), 3) := by decide +kernel
theorem dX11_wasTold_38 : decode cX11_wasTold 38 = .ok (.iconst 0, 1) := by decide +kernel
theorem dX11_wasTold_39 : decode cX11_wasTold 39 = .ok (.ireturn, 1) := by decide +kernel
theorem in_wsX11_wasTold_X11 : ∀ w ∈ wsX110, w ∈ wsX11_wasTold := fun w h => List.mem_cons_of_mem _ (List.mem_append_right _ h)
