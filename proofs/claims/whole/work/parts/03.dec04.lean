theorem dX11_truth_77 : decode cX11_truth 77 = .ok (.getfield 37, 3) := by decide +kernel
theorem dX11_truth_80 : decode cX11_truth 80 = .ok (.invokevirtual 199, 3) := by decide +kernel
theorem dX11_truth_83 : decode cX11_truth 83 = .ok (.ireturn, 1) := by decide +kernel
theorem dX11_copies_0 : decode cX11_copies 0 = .ok (.aload_n 0, 1) := by decide +kernel
theorem dX11_copies_1 : decode cX11_copies 1 = .ok (.invokevirtual 89, 3) := by decide +kernel
theorem dX11_copies_4 : decode cX11_copies 4 = .ok (.ifCond .ne 6, 3) := by decide +kernel
theorem dX11_copies_7 : decode cX11_copies 7 = .ok (.bipush (-103), 2) := by decide +kernel
theorem dX11_copies_9 : decode cX11_copies 9 = .ok (.ireturn, 1) := by decide +kernel
theorem dX11_copies_10 : decode cX11_copies 10 = .ok (.iload_n 1, 1) := by decide +kernel
theorem dX11_copies_11 : decode cX11_copies 11 = .ok (.iconst 1, 1) := by decide +kernel
theorem dX11_copies_12 : decode cX11_copies 12 = .ok (.if_icmp .lt 22, 3) := by decide +kernel
theorem dX11_copies_15 : decode cX11_copies 15 = .ok (.iload_n 1, 1) := by decide +kernel
theorem dX11_copies_16 : decode cX11_copies 16 = .ok (.bipush 60, 2) := by decide +kernel
theorem dX11_copies_18 : decode cX11_copies 18 = .ok (.if_icmp .gt 16, 3) := by decide +kernel
theorem dX11_copies_21 : decode cX11_copies 21 = .ok (.iload_n 2, 1) := by decide +kernel
theorem dX11_copies_22 : decode cX11_copies 22 = .ok (.ifCond .lt 12, 3) := by decide +kernel
theorem dX11_copies_25 : decode cX11_copies 25 = .ok (.iload_n 3, 1) := by decide +kernel
theorem dX11_copies_26 : decode cX11_copies 26 = .ok (.ifCond .lt 8, 3) := by decide +kernel
theorem dX11_copies_29 : decode cX11_copies 29 = .ok (.iload_n 3, 1) := by decide +kernel
theorem dX11_copies_30 : decode cX11_copies 30 = .ok (.iconst 3, 1) := by decide +kernel
theorem dX11_copies_31 : decode cX11_copies 31 = .ok (.if_icmp .le 6, 3) := by decide +kernel
theorem dX11_copies_34 : decode cX11_copies 34 = .ok (.bipush (-102), 2) := by decide +kernel
theorem dX11_copies_36 : decode cX11_copies 36 = .ok (.ireturn, 1) := by decide +kernel
theorem dX11_copies_37 : decode cX11_copies 37 = .ok (.aload_n 0, 1) := by decide +kernel
theorem dX11_copies_38 : decode cX11_copies 38 = .ok (.iload_n 1, 1) := by decide +kernel
theorem dX11_copies_39 : decode cX11_copies 39 = .ok (.iload_n 2, 1) := by decide +kernel
theorem dX11_copies_40 : decode cX11_copies 40 = .ok (.iload_n 3, 1) := by decide +kernel
theorem dX11_copies_41 : decode cX11_copies 41 = .ok (.invokevirtual 202, 3) := by decide +kernel
theorem dX11_copies_44 : decode cX11_copies 44 = .ok (.ireturn, 1) := by decide +kernel
theorem dX11_back_0 : decode cX11_back 0 = .ok (.aload_n 0, 1) := by decide +kernel
theorem dX11_back_1 : decode cX11_back 1 = .ok (.invokevirtual 89, 3) := by decide +kernel
theorem dX11_back_4 : decode cX11_back 4 = .ok (.ifCond .ne 6, 3) := by decide +kernel
theorem dX11_back_7 : decode cX11_back 7 = .ok (.bipush (-103), 2) := by decide +kernel
theorem dX11_back_9 : decode cX11_back 9 = .ok (.ireturn, 1) := by decide +kernel
theorem dX11_back_10 : decode cX11_back 10 = .ok (.aload_n 0, 1) := by decide +kernel
theorem dX11_back_11 : decode cX11_back 11 = .ok (.getfield 12, 3) := by decide +kernel
theorem dX11_back_14 : decode cX11_back 14 = .ok (.iload_n 1, 1) := by decide +kernel
theorem dX11_back_15 : decode cX11_back 15 = .ok (.invokevirtual 128, 3) := by decide +kernel
theorem dX11_back_18 : decode cX11_back 18 = .ok (.ifCond .ne 6, 3) := by decide +kernel
theorem dX11_back_21 : decode cX11_back 21 = .ok (.bipush (-102), 2) := by decide +kernel
theorem dX11_back_23 : decode cX11_back 23 = .ok (.ireturn, 1) := by decide +kernel
theorem dX11_back_24 : decode cX11_back 24 = .ok (.aload_n 0, 1) := by decide +kernel
theorem dX11_back_25 : decode cX11_back 25 = .ok (.getfield 12, 3) := by decide +kernel
theorem dX11_back_28 : decode cX11_back 28 = .ok (.iload_n 1, 1) := by decide +kernel
theorem dX11_back_29 : decode cX11_back 29 = .ok (.aload_n 0, 1) := by decide +kernel
theorem dX11_back_30 : decode cX11_back 30 = .ok (.getfield 57, 3) := by decide +kernel
theorem dX11_back_33 : decode cX11_back 33 = .ok (.invokevirtual 138, 3) := by decide +kernel
theorem dX11_back_36 : decode cX11_back 36 = .ok (.invokevirtual 205, 3) := by decide +kernel
theorem dX11_back_39 : decode cX11_back 39 = .ok (.ireturn, 1) := by decide +kernel
theorem dX11_span_0 : decode cX11_span 0 = .ok (.aload_n 0, 1) := by decide +kernel
theorem dX11_span_1 : decode cX11_span 1 = .ok (.invokevirtual 89, 3) := by decide +kernel
theorem dX11_span_4 : decode cX11_span 4 = .ok (.ifCond .ne 6, 3) := by decide +kernel
theorem dX11_span_7 : decode cX11_span 7 = .ok (.bipush (-103), 2) := by decide +kernel
theorem dX11_span_9 : decode cX11_span 9 = .ok (.ireturn, 1) := by decide +kernel
theorem dX11_span_10 : decode cX11_span 10 = .ok (.iload_n 1, 1) := by decide +kernel
theorem dX11_span_11 : decode cX11_span 11 = .ok (.ifCond .lt 8, 3) := by decide +kernel
theorem dX11_span_14 : decode cX11_span 14 = .ok (.iload_n 1, 1) := by decide +kernel
theorem dX11_span_15 : decode cX11_span 15 = .ok (.iconst 3, 1) := by decide +kernel
theorem dX11_span_16 : decode cX11_span 16 = .ok (.if_icmp .le 6, 3) := by decide +kernel
theorem dX11_span_19 : decode cX11_span 19 = .ok (.bipush (-102), 2) := by decide +kernel
theorem dX11_span_21 : decode cX11_span 21 = .ok (.ireturn, 1) := by decide +kernel
theorem dX11_span_22 : decode cX11_span 22 = .ok (.aload_n 0, 1) := by decide +kernel
theorem dX11_span_23 : decode cX11_span 23 = .ok (.iload_n 1, 1) := by decide +kernel
theorem dX11_span_24 : decode cX11_span 24 = .ok (.invokevirtual 208, 3) := by decide +kernel
theorem dX11_span_27 : decode cX11_span 27 = .ok (.ireturn, 1) := by decide +kernel
theorem dX11_person_0 : decode cX11_person 0 = .ok (.aload_n 0, 1) := by decide +kernel
theorem dX11_person_1 : decode cX11_person 1 = .ok (.iload_n 1, 1) := by decide +kernel
theorem dX11_person_2 : decode cX11_person 2 = .ok (.aload_n 0, 1) := by decide +kernel
theorem dX11_person_3 : decode cX11_person 3 = .ok (.getfield 60, 3) := by decide +kernel
theorem dX11_person_6 : decode cX11_person 6 = .ok (.invokevirtual 211, 3) := by decide +kernel
theorem dX11_person_9 : decode cX11_person 9 = .ok (.istore_n 2, 1) := by decide +kernel
theorem dX11_person_10 : decode cX11_person 10 = .ok (.iload_n 2, 1) := by decide +kernel
theorem dX11_person_11 : decode cX11_person 11 = .ok (.ifCond .eq 5, 3) := by decide +kernel
theorem dX11_person_14 : decode cX11_person 14 = .ok (.iload_n 2, 1) := by decide +kernel
theorem dX11_person_15 : decode cX11_person 15 = .ok (.ireturn, 1) := by decide +kernel
theorem dX11_person_16 : decode cX11_person 16 = .ok (.aload_n 0, 1) := by decide +kernel
theorem dX11_person_17 : decode cX11_person 17 = .ok (.getfield 60, 3) := by decide +kernel
theorem dX11_person_20 : decode cX11_person 20 = .ok (.iload_n 1, 1) := by decide +kernel
theorem dX11_person_21 : decode cX11_person 21 = .ok (.invokevirtual 126, 3) := by decide +kernel
theorem dX11_person_24 : decode cX11_person 24 = .ok (.aload_n 0, 1) := by decide +kernel
theorem dX11_person_25 : decode cX11_person 25 = .ok (.getfield 60, 3) := by decide +kernel
theorem dX11_person_28 : decode cX11_person 28 = .ok (.invokevirtual 154, 3) := by decide +kernel
theorem dX11_person_31 : decode cX11_person 31 = .ok (.iconst 1, 1) := by decide +kernel
theorem dX11_person_32 : decode cX11_person 32 = .ok (.isub, 1) := by decide +kernel
theorem dX11_person_33 : decode cX11_person 33 = .ok (.ireturn, 1) := by decide +kernel
theorem dX11_gate_0 : decode cX11_gate 0 = .ok (.aload_n 0, 1) := by decide +kernel
theorem dX11_gate_1 : decode cX11_gate 1 = .ok (.invokevirtual 89, 3) := by decide +kernel
theorem dX11_gate_4 : decode cX11_gate 4 = .ok (.ifCond .eq 10, 3) := by decide +kernel
theorem dX11_gate_7 : decode cX11_gate 7 = .ok (.aload_n 0, 1) := by decide +kernel
theorem dX11_gate_8 : decode cX11_gate 8 = .ok (.invokevirtual 215, 3) := by decide +kernel
theorem dX11_gate_11 : decode cX11_gate 11 = .ok (.goto 5, 3) := by decide +kernel
theorem dX11_gate_14 : decode cX11_gate 14 = .ok (.bipush (-103), 2) := by decide +kernel
theorem dX11_gate_16 : decode cX11_gate 16 = .ok (.ireturn, 1) := by decide +kernel
theorem dX11_heap_0 : decode cX11_heap 0 = .ok (.aload_n 0, 1) := by decide +kernel
theorem dX11_heap_1 : decode cX11_heap 1 = .ok (.iload_n 1, 1) := by decide +kernel
theorem dX11_heap_2 : decode cX11_heap 2 = .ok (.aload_n 0, 1) := by decide +kernel
theorem dX11_heap_3 : decode cX11_heap 3 = .ok (.getfield 63, 3) := by decide +kernel
theorem dX11_heap_6 : decode cX11_heap 6 = .ok (.invokevirtual 211, 3) := by decide +kernel
theorem dX11_heap_9 : decode cX11_heap 9 = .ok (.istore_n 2, 1) := by decide +kernel
theorem dX11_heap_10 : decode cX11_heap 10 = .ok (.iload_n 2, 1) := by decide +kernel
theorem dX11_heap_11 : decode cX11_heap 11 = .ok (.ifCond .eq 5, 3) := by decide +kernel
theorem dX11_heap_14 : decode cX11_heap 14 = .ok (.iload_n 2, 1) := by decide +kernel
theorem dX11_heap_15 : decode cX11_heap 15 = .ok (.ireturn, 1) := by decide +kernel
theorem dX11_heap_16 : decode cX11_heap 16 = .ok (.aload_n 0, 1) := by decide +kernel
theorem dX11_heap_17 : decode cX11_heap 17 = .ok (.getfield 63, 3) := by decide +kernel
theorem dX11_heap_20 : decode cX11_heap 20 = .ok (.iload_n 1, 1) := by decide +kernel
theorem dX11_heap_21 : decode cX11_heap 21 = .ok (.invokevirtual 126, 3) := by decide +kernel
theorem dX11_heap_24 : decode cX11_heap 24 = .ok (.aload_n 0, 1) := by decide +kernel
theorem dX11_heap_25 : decode cX11_heap 25 = .ok (.getfield 63, 3) := by decide +kernel
theorem dX11_heap_28 : decode cX11_heap 28 = .ok (.invokevirtual 154, 3) := by decide +kernel
theorem dX11_heap_31 : decode cX11_heap 31 = .ok (.ireturn, 1) := by decide +kernel
theorem dX11_order_0 : decode cX11_order 0 = .ok (.aload_n 0, 1) := by decide +kernel
theorem dX11_order_1 : decode cX11_order 1 = .ok (.invokevirtual 89, 3) := by decide +kernel
theorem dX11_order_4 : decode cX11_order 4 = .ok (.ifCond .ne 6, 3) := by decide +kernel
theorem dX11_order_7 : decode cX11_order 7 = .ok (.bipush (-103), 2) := by decide +kernel
theorem dX11_order_9 : decode cX11_order 9 = .ok (.ireturn, 1) := by decide +kernel
theorem dX11_order_10 : decode cX11_order 10 = .ok (.iload_n 1, 1) := by decide +kernel
theorem dX11_order_11 : decode cX11_order 11 = .ok (.ifCond .eq 18, 3) := by decide +kernel
theorem dX11_order_14 : decode cX11_order 14 = .ok (.iload_n 1, 1) := by decide +kernel
theorem dX11_order_15 : decode cX11_order 15 = .ok (.bipush 10, 2) := by decide +kernel
theorem dX11_order_17 : decode cX11_order 17 = .ok (.if_icmp .lt 9, 3) := by decide +kernel
theorem dX11_order_20 : decode cX11_order 20 = .ok (.iload_n 1, 1) := by decide +kernel
theorem dX11_order_21 : decode cX11_order 21 = .ok (.bipush 16, 2) := by decide +kernel
theorem dX11_order_23 : decode cX11_order 23 = .ok (.if_icmp .lt 6, 3) := by decide +kernel
theorem dX11_order_26 : decode cX11_order 26 = .ok (.bipush (-102), 2) := by decide +kernel
theorem dX11_order_28 : decode cX11_order 28 = .ok (.ireturn, 1) := by decide +kernel
theorem dX11_order_29 : decode cX11_order 29 = .ok (.aload_n 0, 1) := by decide +kernel
theorem dX11_order_30 : decode cX11_order 30 = .ok (.getfield 44, 3) := by decide +kernel
theorem dX11_order_33 : decode cX11_order 33 = .ok (.aload_n 0, 1) := by decide +kernel
theorem dX11_order_34 : decode cX11_order 34 = .ok (.getfield 63, 3) := by decide +kernel
theorem dX11_order_37 : decode cX11_order 37 = .ok (.invokevirtual 218, 3) := by decide +kernel
theorem dX11_order_40 : decode cX11_order 40 = .ok (.iload_n 1, 1) := by decide +kernel
theorem dX11_order_41 : decode cX11_order 41 = .ok (.ifCond .ne 13, 3) := by decide +kernel
theorem dX11_order_44 : decode cX11_order 44 = .ok (.aload_n 0, 1) := by decide +kernel
theorem dX11_order_45 : decode cX11_order 45 = .ok (.getfield 44, 3) := by decide +kernel
theorem dX11_order_48 : decode cX11_order 48 = .ok (.invokevirtual 222, 3) := by decide +kernel
theorem dX11_order_51 : decode cX11_order 51 = .ok (.goto 14, 3) := by decide +kernel
theorem dX11_order_54 : decode cX11_order 54 = .ok (.aload_n 0, 1) := by decide +kernel
theorem dX11_order_55 : decode cX11_order 55 = .ok (.getfield 44, 3) := by decide +kernel
theorem dX11_order_58 : decode cX11_order 58 = .ok (.iload_n 1, 1) := by decide +kernel
theorem dX11_order_59 : decode cX11_order 59 = .ok (.bipush 10, 2) := by decide +kernel
theorem dX11_order_61 : decode cX11_order 61 = .ok (.isub, 1) := by decide +kernel
theorem dX11_order_62 : decode cX11_order 62 = .ok (.invokevirtual 225, 3) := by decide +kernel
theorem dX11_order_65 : decode cX11_order 65 = .ok (.ireturn, 1) := by decide +kernel
theorem dX11_image_0 : decode cX11_image 0 = .ok (.aload_n 0, 1) := by decide +kernel
theorem dX11_image_1 : decode cX11_image 1 = .ok (.invokevirtual 89, 3) := by decide +kernel
theorem dX11_image_4 : decode cX11_image 4 = .ok (.ifCond .ne 6, 3) := by decide +kernel
theorem dX11_image_7 : decode cX11_image 7 = .ok (.bipush (-103), 2) := by decide +kernel
theorem dX11_image_9 : decode cX11_image 9 = .ok (.ireturn, 1) := by decide +kernel
theorem dX11_image_10 : decode cX11_image 10 = .ok (.aload_n 0, 1) := by decide +kernel
theorem dX11_image_11 : decode cX11_image 11 = .ok (.aload_n 0, 1) := by decide +kernel
theorem dX11_image_12 : decode cX11_image 12 = .ok (.getfield 66, 3) := by decide +kernel
theorem dX11_image_15 : decode cX11_image 15 = .ok (.putfield 73, 3) := by decide +kernel
theorem dX11_image_18 : decode cX11_image 18 = .ok (.aload_n 0, 1) := by decide +kernel
theorem dX11_image_19 : decode cX11_image 19 = .ok (.aload_n 0, 1) := by decide +kernel
theorem dX11_image_20 : decode cX11_image 20 = .ok (.getfield 57, 3) := by decide +kernel
theorem dX11_image_23 : decode cX11_image 23 = .ok (.invokevirtual 154, 3) := by decide +kernel
theorem dX11_image_26 : decode cX11_image 26 = .ok (.putfield 76, 3) := by decide +kernel
theorem dX11_image_29 : decode cX11_image 29 = .ok (.aload_n 0, 1) := by decide +kernel
theorem dX11_image_30 : decode cX11_image 30 = .ok (.aload_n 0, 1) := by decide +kernel
theorem dX11_image_31 : decode cX11_image 31 = .ok (.getfield 60, 3) := by decide +kernel
theorem dX11_image_34 : decode cX11_image 34 = .ok (.invokevirtual 154, 3) := by decide +kernel
theorem dX11_image_37 : decode cX11_image 37 = .ok (.putfield 79, 3) := by decide +kernel
theorem dX11_image_40 : decode cX11_image 40 = .ok (.aload_n 0, 1) := by decide +kernel
theorem dX11_image_41 : decode cX11_image 41 = .ok (.aload_n 0, 1) := by decide +kernel
theorem dX11_image_42 : decode cX11_image 42 = .ok (.getfield 63, 3) := by decide +kernel
theorem dX11_image_45 : decode cX11_image 45 = .ok (.invokevirtual 154, 3) := by decide +kernel
theorem dX11_image_48 : decode cX11_image 48 = .ok (.putfield 82, 3) := by decide +kernel
theorem dX11_image_51 : decode cX11_image 51 = .ok (.aload_n 0, 1) := by decide +kernel
theorem dX11_image_52 : decode cX11_image 52 = .ok (.getfield 76, 3) := by decide +kernel
theorem dX11_image_55 : decode cX11_image 55 = .ok (.ireturn, 1) := by decide +kernel
theorem dX11_restore_0 : decode cX11_restore 0 = .ok (.aload_n 0, 1) := by decide +kernel
theorem dX11_restore_1 : decode cX11_restore 1 = .ok (.getfield 76, 3) := by decide +kernel
theorem dX11_restore_4 : decode cX11_restore 4 = .ok (.ifCond .ne 6, 3) := by decide +kernel
theorem dX11_restore_7 : decode cX11_restore 7 = .ok (.bipush (-103), 2) := by decide +kernel
theorem dX11_restore_9 : decode cX11_restore 9 = .ok (.ireturn, 1) := by decide +kernel
theorem dX11_restore_10 : decode cX11_restore 10 = .ok (.aload_n 0, 1) := by decide +kernel
theorem dX11_restore_11 : decode cX11_restore 11 = .ok (.aload_n 0, 1) := by decide +kernel
theorem dX11_restore_12 : decode cX11_restore 12 = .ok (.getfield 73, 3) := by decide +kernel
theorem dX11_restore_15 : decode cX11_restore 15 = .ok (.putfield 66, 3) := by decide +kernel
theorem dX11_restore_18 : decode cX11_restore 18 = .ok (.aload_n 0, 1) := by decide +kernel
theorem dX11_restore_19 : decode cX11_restore 19 = .ok (.getfield 57, 3) := by decide +kernel
theorem dX11_restore_22 : decode cX11_restore 22 = .ok (.aload_n 0, 1) := by decide +kernel
theorem dX11_restore_23 : decode cX11_restore 23 = .ok (.getfield 76, 3) := by decide +kernel
theorem dX11_restore_26 : decode cX11_restore 26 = .ok (.invokevirtual 159, 3) := by decide +kernel
theorem dX11_restore_29 : decode cX11_restore 29 = .ok (.aload_n 0, 1) := by decide +kernel
theorem dX11_restore_30 : decode cX11_restore 30 = .ok (.getfield 60, 3) := by decide +kernel
theorem dX11_restore_33 : decode cX11_restore 33 = .ok (.aload_n 0, 1) := by decide +kernel
theorem dX11_restore_34 : decode cX11_restore 34 = .ok (.getfield 79, 3) := by decide +kernel
theorem dX11_restore_37 : decode cX11_restore 37 = .ok (.invokevirtual 159, 3) := by decide +kernel
theorem dX11_restore_40 : decode cX11_restore 40 = .ok (.aload_n 0, 1) := by decide +kernel
theorem dX11_restore_41 : decode cX11_restore 41 = .ok (.getfield 63, 3) := by decide +kernel
theorem dX11_restore_44 : decode cX11_restore 44 = .ok (.aload_n 0, 1) := by decide +kernel
theorem dX11_restore_45 : decode cX11_restore 45 = .ok (.getfield 82, 3) := by decide +kernel
theorem dX11_restore_48 : decode cX11_restore 48 = .ok (.invokevirtual 159, 3) := by decide +kernel
theorem dX11_restore_51 : decode cX11_restore 51 = .ok (.aload_n 0, 1) := by decide +kernel
theorem dX11_restore_52 : decode cX11_restore 52 = .ok (.getfield 76, 3) := by decide +kernel
theorem dX11_restore_55 : decode cX11_restore 55 = .ok (.ireturn, 1) := by decide +kernel
theorem dX11_count_0 : decode cX11_count 0 = .ok (.iload_n 1, 1) := by decide +kernel
theorem dX11_count_1 : decode cX11_count 1 = .ok (.ifCond .lt 9, 3) := by decide +kernel
theorem dX11_count_4 : decode cX11_count 4 = .ok (.iload_n 1, 1) := by decide +kernel
theorem dX11_count_5 : decode cX11_count 5 = .ok (.bipush 8, 2) := by decide +kernel
theorem dX11_count_7 : decode cX11_count 7 = .ok (.if_icmp .lt 8, 3) := by decide +kernel
theorem dX11_count_10 : decode cX11_count 10 = .ok (.bipush (-102), 2) := by decide +kernel
theorem dX11_count_12 : decode cX11_count 12 = .ok (.goto 8, 3) := by decide +kernel
theorem dX11_count_15 : decode cX11_count 15 = .ok (.aload_n 0, 1) := by decide +kernel
theorem dX11_count_16 : decode cX11_count 16 = .ok (.iload_n 1, 1) := by decide +kernel
theorem dX11_count_17 : decode cX11_count 17 = .ok (.invokevirtual 228, 3) := by decide +kernel
theorem dX11_count_20 : decode cX11_count 20 = .ok (.ireturn, 1) := by decide +kernel
theorem dX11_digest_0 : decode cX11_digest 0 = .ok (.ldc2_w 231, 3) := by decide +kernel
theorem dX11_digest_3 : decode cX11_digest 3 = .ok (.lstore_n 1, 1) := by decide +kernel
theorem dX11_digest_4 : decode cX11_digest 4 = .ok (.iconst 0, 1) := by decide +kernel
theorem dX11_digest_5 : decode cX11_digest 5 = .ok (.istore_n 3, 1) := by decide +kernel
theorem dX11_digest_6 : decode cX11_digest 6 = .ok (.iload_n 3, 1) := by decide +kernel
theorem dX11_digest_7 : decode cX11_digest 7 = .ok (.aload_n 0, 1) := by decide +kernel
theorem dX11_digest_8 : decode cX11_digest 8 = .ok (.getfield 12, 3) := by decide +kernel
theorem dX11_digest_11 : decode cX11_digest 11 = .ok (.invokevirtual 122, 3) := by decide +kernel
theorem dX11_digest_14 : decode cX11_digest 14 = .ok (.if_icmp .ge 39, 3) := by decide +kernel
theorem dX11_digest_17 : decode cX11_digest 17 = .ok (.iconst 0, 1) := by decide +kernel
theorem dX11_digest_18 : decode cX11_digest 18 = .ok (.istore 4, 2) := by decide +kernel
theorem dX11_digest_20 : decode cX11_digest 20 = .ok (.iload 4, 2) := by decide +kernel
theorem dX11_digest_22 : decode cX11_digest 22 = .ok (.iconst 3, 1) := by decide +kernel
theorem dX11_digest_23 : decode cX11_digest 23 = .ok (.if_icmp .ge 24, 3) := by decide +kernel
theorem dX11_digest_26 : decode cX11_digest 26 = .ok (.ldc2_w 233, 3) := by decide +kernel
theorem dX11_digest_29 : decode cX11_digest 29 = .ok (.lload_n 1, 1) := by decide +kernel
theorem dX11_digest_30 : decode cX11_digest 30 = .ok (.lmul, 1) := by decide +kernel
theorem dX11_digest_31 : decode cX11_digest 31 = .ok (.aload_n 0, 1) := by decide +kernel
theorem dX11_digest_32 : decode cX11_digest 32 = .ok (.iload_n 3, 1) := by decide +kernel
theorem dX11_digest_33 : decode cX11_digest 33 = .ok (.iload 4, 2) := by decide +kernel
theorem dX11_digest_35 : decode cX11_digest 35 = .ok (.invokevirtual 111, 3) := by decide +kernel
theorem dX11_digest_38 : decode cX11_digest 38 = .ok (.i2l, 1) := by decide +kernel
theorem dX11_digest_39 : decode cX11_digest 39 = .ok (.ladd, 1) := by decide +kernel
theorem dX11_digest_40 : decode cX11_digest 40 = .ok (.lstore_n 1, 1) := by decide +kernel
theorem dX11_digest_41 : decode cX11_digest 41 = .ok (.iinc 4 1, 3) := by decide +kernel
theorem dX11_digest_44 : decode cX11_digest 44 = .ok (.goto (-24), 3) := by decide +kernel
theorem dX11_digest_47 : decode cX11_digest 47 = .ok (.iinc 3 1, 3) := by decide +kernel
theorem dX11_digest_50 : decode cX11_digest 50 = .ok (.goto (-44), 3) := by decide +kernel
theorem dX11_digest_53 : decode cX11_digest 53 = .ok (.lload_n 1, 1) := by decide +kernel
theorem dX11_digest_54 : decode cX11_digest 54 = .ok (.aload_n 0, 1) := by decide +kernel
theorem dX11_digest_55 : decode cX11_digest 55 = .ok (.getfield 57, 3) := by decide +kernel
theorem dX11_digest_58 : decode cX11_digest 58 = .ok (.invokestatic 235, 3) := by decide +kernel
theorem dX11_digest_61 : decode cX11_digest 61 = .ok (.lstore_n 1, 1) := by decide +kernel
theorem dX11_digest_62 : decode cX11_digest 62 = .ok (.iconst 0, 1) := by decide +kernel
theorem dX11_digest_63 : decode cX11_digest 63 = .ok (.istore_n 3, 1) := by decide +kernel
theorem dX11_digest_64 : decode cX11_digest 64 = .ok (.iload_n 3, 1) := by decide +kernel
theorem dX11_digest_65 : decode cX11_digest 65 = .ok (.aload_n 0, 1) := by decide +kernel
theorem dX11_digest_66 : decode cX11_digest 66 = .ok (.getfield 21, 3) := by decide +kernel
theorem dX11_digest_69 : decode cX11_digest 69 = .ok (.invokevirtual 239, 3) := by decide +kernel
theorem dX11_digest_72 : decode cX11_digest 72 = .ok (.if_icmp .ge 43, 3) := by decide +kernel
theorem dX11_digest_75 : decode cX11_digest 75 = .ok (.iconst 0, 1) := by decide +kernel
theorem dX11_digest_76 : decode cX11_digest 76 = .ok (.istore 4, 2) := by decide +kernel
theorem dX11_digest_78 : decode cX11_digest 78 = .ok (.iload 4, 2) := by decide +kernel
theorem dX11_digest_80 : decode cX11_digest 80 = .ok (.bipush 6, 2) := by decide +kernel
theorem dX11_digest_82 : decode cX11_digest 82 = .ok (.if_icmp .ge 27, 3) := by decide +kernel
theorem dX11_digest_85 : decode cX11_digest 85 = .ok (.ldc2_w 233, 3) := by decide +kernel
theorem dX11_digest_88 : decode cX11_digest 88 = .ok (.lload_n 1, 1) := by decide +kernel
theorem dX11_digest_89 : decode cX11_digest 89 = .ok (.lmul, 1) := by decide +kernel
theorem dX11_digest_90 : decode cX11_digest 90 = .ok (.aload_n 0, 1) := by decide +kernel
theorem dX11_digest_91 : decode cX11_digest 91 = .ok (.getfield 21, 3) := by decide +kernel
theorem dX11_digest_94 : decode cX11_digest 94 = .ok (.iload_n 3, 1) := by decide +kernel
theorem dX11_digest_95 : decode cX11_digest 95 = .ok (.iload 4, 2) := by decide +kernel
theorem dX11_digest_97 : decode cX11_digest 97 = .ok (.invokevirtual 175, 3) := by decide +kernel
theorem dX11_digest_100 : decode cX11_digest 100 = .ok (.i2l, 1) := by decide +kernel
theorem dX11_digest_101 : decode cX11_digest 101 = .ok (.ladd, 1) := by decide +kernel
theorem dX11_digest_102 : decode cX11_digest 102 = .ok (.lstore_n 1, 1) := by decide +kernel
theorem dX11_digest_103 : decode cX11_digest 103 = .ok (.iinc 4 1, 3) := by decide +kernel
theorem dX11_digest_106 : decode cX11_digest 106 = .ok (.goto (-28), 3) := by decide +kernel
theorem dX11_digest_109 : decode cX11_digest 109 = .ok (.iinc 3 1, 3) := by decide +kernel
theorem dX11_digest_112 : decode cX11_digest 112 = .ok (.goto (-48), 3) := by decide +kernel
theorem dX11_digest_115 : decode cX11_digest 115 = .ok (.aload_n 0, 1) := by decide +kernel
theorem dX11_digest_116 : decode cX11_digest 116 = .ok (.invokevirtual 89, 3) := by decide +kernel
theorem dX11_digest_119 : decode cX11_digest 119 = .ok (.ifCond .eq 9, 3) := by decide +kernel
theorem dX11_digest_122 : decode cX11_digest 122 = .ok (.aload_n 0, 1) := by decide +kernel
theorem dX11_digest_123 : decode cX11_digest 123 = .ok (.lload_n 1, 1) := by decide +kernel
theorem dX11_digest_124 : decode cX11_digest 124 = .ok (.invokevirtual 240, 3) := by decide +kernel
theorem dX11_digest_127 : decode cX11_digest 127 = .ok (.lstore_n 1, 1) := by decide +kernel
theorem dX11_digest_128 : decode cX11_digest 128 = .ok (.lload_n 1, 1) := by decide +kernel
theorem dX11_digest_129 : decode cX11_digest 129 = .ok (.aload_n 0, 1) := by decide +kernel
theorem dX11_digest_130 : decode cX11_digest 130 = .ok (.getfield 53, 3) := by decide +kernel
theorem dX11_digest_133 : decode cX11_digest 133 = .ok (.invokestatic 235, 3) := by decide +kernel
theorem dX11_digest_136 : decode cX11_digest 136 = .ok (.lstore_n 1, 1) := by decide +kernel
theorem dX11_digest_137 : decode cX11_digest 137 = .ok (.iconst 0, 1) := by decide +kernel
theorem dX11_digest_138 : decode cX11_digest 138 = .ok (.istore_n 3, 1) := by decide +kernel
theorem dX11_digest_139 : decode cX11_digest 139 = .ok (.iload_n 3, 1) := by decide +kernel
theorem dX11_digest_140 : decode cX11_digest 140 = .ok (.bipush 8, 2) := by decide +kernel
theorem dX11_digest_142 : decode cX11_digest 142 = .ok (.if_icmp .ge 22, 3) := by decide +kernel
theorem dX11_digest_145 : decode cX11_digest 145 = .ok (.ldc2_w 233, 3) := by decide +kernel
theorem dX11_digest_148 : decode cX11_digest 148 = .ok (.lload_n 1, 1) := by decide +kernel
theorem dX11_digest_149 : decode cX11_digest 149 = .ok (.lmul, 1) := by decide +kernel
theorem dX11_digest_150 : decode cX11_digest 150 = .ok (.aload_n 0, 1) := by decide +kernel
theorem dX11_digest_151 : decode cX11_digest 151 = .ok (.iload_n 3, 1) := by decide +kernel
theorem dX11_digest_152 : decode cX11_digest 152 = .ok (.invokevirtual 228, 3) := by decide +kernel
theorem dX11_digest_155 : decode cX11_digest 155 = .ok (.i2l, 1) := by decide +kernel
theorem dX11_digest_156 : decode cX11_digest 156 = .ok (.ladd, 1) := by decide +kernel
theorem dX11_digest_157 : decode cX11_digest 157 = .ok (.lstore_n 1, 1) := by decide +kernel
theorem dX11_digest_158 : decode cX11_digest 158 = .ok (.iinc 3 1, 3) := by decide +kernel
theorem dX11_digest_161 : decode cX11_digest 161 = .ok (.goto (-22), 3) := by decide +kernel
theorem dX11_digest_164 : decode cX11_digest 164 = .ok (.lload_n 1, 1) := by decide +kernel
theorem dX11_digest_165 : decode cX11_digest 165 = .ok (.lreturn, 1) := by decide +kernel
theorem dX11_hasLine_0 : decode cX11_hasLine 0 = .ok (.aload_n 0, 1) := by decide +kernel
theorem dX11_hasLine_1 : decode cX11_hasLine 1 = .ok (.getfield 57, 3) := by decide +kernel
theorem dX11_hasLine_4 : decode cX11_hasLine 4 = .ok (.invokevirtual 154, 3) := by decide +kernel
theorem dX11_hasLine_7 : decode cX11_hasLine 7 = .ok (.ifCond .le 7, 3) := by decide +kernel
theorem dX11_hasLine_10 : decode cX11_hasLine 10 = .ok (.iconst 1, 1) := by decide +kernel
theorem dX11_hasLine_11 : decode cX11_hasLine 11 = .ok (.goto 4, 3) := by decide +kernel
theorem dX11_hasLine_14 : decode cX11_hasLine 14 = .ok (.iconst 0, 1) := by decide +kernel
theorem dX11_hasLine_15 : decode cX11_hasLine 15 = .ok (.ireturn, 1) := by decide +kernel
theorem dX11_isKind_0 : decode cX11_isKind 0 = .ok (.iload_n 0, 1) := by decide +kernel
theorem dX11_isKind_1 : decode cX11_isKind 1 = .ok (.ifCond .lt 12, 3) := by decide +kernel
theorem dX11_isKind_4 : decode cX11_isKind 4 = .ok (.iload_n 0, 1) := by decide +kernel
theorem dX11_isKind_5 : decode cX11_isKind 5 = .ok (.iconst 4, 1) := by decide +kernel
theorem dX11_isKind_6 : decode cX11_isKind 6 = .ok (.if_icmp .gt 7, 3) := by decide +kernel
theorem dX11_isKind_9 : decode cX11_isKind 9 = .ok (.iconst 1, 1) := by decide +kernel
theorem dX11_isKind_10 : decode cX11_isKind 10 = .ok (.goto 4, 3) := by decide +kernel
theorem dX11_isKind_13 : decode cX11_isKind 13 = .ok (.iconst 0, 1) := by decide +kernel
theorem dX11_isKind_14 : decode cX11_isKind 14 = .ok (.ireturn, 1) := by decide +kernel
theorem dX11_ofKind_0 : decode cX11_ofKind 0 = .ok (.iload_n 0, 1) := by decide +kernel
theorem dX11_ofKind_1 : decode cX11_ofKind 1 = .ok (.tableswitch 63 1 4 #[31, 39, 47, 55], 31) := by decide +kernel
theorem dX11_ofKind_32 : decode cX11_ofKind 32 = .ok (.new 244, 3) := by decide +kernel
theorem dX11_ofKind_35 : decode cX11_ofKind 35 = .ok (.dup, 1) := by decide +kernel
theorem dX11_ofKind_36 : decode cX11_ofKind 36 = .ok (.invokespecial 246, 3) := by decide +kernel
theorem dX11_ofKind_39 : decode cX11_ofKind 39 = .ok (.areturn, 1) := by decide +kernel
theorem dX11_ofKind_40 : decode cX11_ofKind 40 = .ok (.new 247, 3) := by decide +kernel
theorem dX11_ofKind_43 : decode cX11_ofKind 43 = .ok (.dup, 1) := by decide +kernel
theorem dX11_ofKind_44 : decode cX11_ofKind 44 = .ok (.invokespecial 249, 3) := by decide +kernel
theorem dX11_ofKind_47 : decode cX11_ofKind 47 = .ok (.areturn, 1) := by decide +kernel
theorem dX11_ofKind_48 : decode cX11_ofKind 48 = .ok (.new 250, 3) := by decide +kernel
theorem dX11_ofKind_51 : decode cX11_ofKind 51 = .ok (.dup, 1) := by decide +kernel
theorem dX11_ofKind_52 : decode cX11_ofKind 52 = .ok (.invokespecial 252, 3) := by decide +kernel
theorem dX11_ofKind_55 : decode cX11_ofKind 55 = .ok (.areturn, 1) := by decide +kernel
theorem dX11_ofKind_56 : decode cX11_ofKind 56 = .ok (.new 253, 3) := by decide +kernel
theorem dX11_ofKind_59 : decode cX11_ofKind 59 = .ok (.dup, 1) := by decide +kernel
theorem dX11_ofKind_60 : decode cX11_ofKind 60 = .ok (.invokespecial 255, 3) := by decide +kernel
theorem dX11_ofKind_63 : decode cX11_ofKind 63 = .ok (.areturn, 1) := by decide +kernel
theorem dX11_ofKind_64 : decode cX11_ofKind 64 = .ok (.new 256, 3) := by decide +kernel
theorem dX11_ofKind_67 : decode cX11_ofKind 67 = .ok (.dup, 1) := by decide +kernel
theorem dX11_ofKind_68 : decode cX11_ofKind 68 = .ok (.invokespecial 258, 3) := by decide +kernel
theorem dX11_ofKind_71 : decode cX11_ofKind 71 = .ok (.areturn, 1) := by decide +kernel
theorem dX11_isSuch_0 : decode cX11_isSuch 0 = .ok (.iload_n 1, 1) := by decide +kernel
theorem dX11_isSuch_1 : decode cX11_isSuch 1 = .ok (.tableswitch 51 1 4 #[31, 36, 41, 46], 31) := by decide +kernel
theorem dX11_isSuch_32 : decode cX11_isSuch 32 = .ok (.aload_n 0, 1) := by decide +kernel
theorem dX11_isSuch_33 : decode cX11_isSuch 33 = .ok (.instanceof 244, 3) := by decide +kernel
theorem dX11_isSuch_36 : decode cX11_isSuch 36 = .ok (.ireturn, 1) := by decide +kernel
theorem dX11_isSuch_37 : decode cX11_isSuch 37 = .ok (.aload_n 0, 1) := by decide +kernel
theorem dX11_isSuch_38 : decode cX11_isSuch 38 = .ok (.instanceof 247, 3) := by decide +kernel
theorem dX11_isSuch_41 : decode cX11_isSuch 41 = .ok (.ireturn, 1) := by decide +kernel
theorem dX11_isSuch_42 : decode cX11_isSuch 42 = .ok (.aload_n 0, 1) := by decide +kernel
theorem dX11_isSuch_43 : decode cX11_isSuch 43 = .ok (.instanceof 250, 3) := by decide +kernel
theorem dX11_isSuch_46 : decode cX11_isSuch 46 = .ok (.ireturn, 1) := by decide +kernel
theorem dX11_isSuch_47 : decode cX11_isSuch 47 = .ok (.aload_n 0, 1) := by decide +kernel
theorem dX11_isSuch_48 : decode cX11_isSuch 48 = .ok (.instanceof 253, 3) := by decide +kernel
theorem dX11_isSuch_51 : decode cX11_isSuch 51 = .ok (.ireturn, 1) := by decide +kernel
theorem dX11_isSuch_52 : decode cX11_isSuch 52 = .ok (.iconst 1, 1) := by decide +kernel
theorem dX11_isSuch_53 : decode cX11_isSuch 53 = .ok (.ireturn, 1) := by decide +kernel
theorem dX11_tellAbout_0 : decode cX11_tellAbout 0 = .ok (.iload_n 2, 1) := by decide +kernel
theorem dX11_tellAbout_1 : decode cX11_tellAbout 1 = .ok (.lookupswitch 48 #[(0, 27), (1, 39)], 27) := by decide +kernel
theorem dX11_tellAbout_28 : decode cX11_tellAbout 28 = .ok (.aload_n 0, 1) := by decide +kernel
theorem dX11_tellAbout_29 : decode cX11_tellAbout 29 = .ok (.getfield 12, 3) := by decide +kernel
theorem dX11_tellAbout_32 : decode cX11_tellAbout 32 = .ok (.iload_n 1, 1) := by decide +kernel
theorem dX11_tellAbout_33 : decode cX11_tellAbout 33 = .ok (.invokevirtual 115, 3) := by decide +kernel
theorem dX11_tellAbout_36 : decode cX11_tellAbout 36 = .ok (.invokevirtual 259, 3) := by decide +kernel
theorem dX11_tellAbout_39 : decode cX11_tellAbout 39 = .ok (.ireturn, 1) := by decide +kernel
theorem dX11_tellAbout_40 : decode cX11_tellAbout 40 = .ok (.aload_n 0, 1) := by decide +kernel
theorem dX11_tellAbout_41 : decode cX11_tellAbout 41 = .ok (.getfield 66, 3) := by decide +kernel
theorem dX11_tellAbout_44 : decode cX11_tellAbout 44 = .ok (.iload_n 1, 1) := by decide +kernel
theorem dX11_tellAbout_45 : decode cX11_tellAbout 45 = .ok (.invokestatic 262, 3) := by decide +kernel
theorem dX11_tellAbout_48 : decode cX11_tellAbout 48 = .ok (.ireturn, 1) := by decide +kernel
theorem dX11_tellAbout_49 : decode cX11_tellAbout 49 = .ok (.aload_n 0, 1) := by decide +kernel
theorem dX11_tellAbout_50 : decode cX11_tellAbout 50 = .ok (.invokevirtual 89, 3) := by decide +kernel
theorem dX11_tellAbout_53 : decode cX11_tellAbout 53 = .ok (.ifCond .eq 17, 3) := by decide +kernel
theorem dX11_tellAbout_56 : decode cX11_tellAbout 56 = .ok (.aload_n 0, 1) := by decide +kernel
theorem dX11_tellAbout_57 : decode cX11_tellAbout 57 = .ok (.getfield 57, 3) := by decide +kernel
theorem dX11_tellAbout_60 : decode cX11_tellAbout 60 = .ok (.invokevirtual 138, 3) := by decide +kernel
theorem dX11_tellAbout_63 : decode cX11_tellAbout 63 = .ok (.iload_n 1, 1) := by decide +kernel
theorem dX11_tellAbout_64 : decode cX11_tellAbout 64 = .ok (.invokestatic 262, 3) := by decide +kernel
theorem dX11_tellAbout_67 : decode cX11_tellAbout 67 = .ok (.goto 4, 3) := by decide +kernel
theorem dX11_tellAbout_70 : decode cX11_tellAbout 70 = .ok (.iconst (-1), 1) := by decide +kernel
theorem dX11_tellAbout_71 : decode cX11_tellAbout 71 = .ok (.ireturn, 1) := by decide +kernel
theorem dX11_refusalOf_0 : decode cX11_refusalOf 0 = .ok (.aload_n 0, 1) := by decide +kernel
theorem dX11_refusalOf_1 : decode cX11_refusalOf 1 = .ok (.invokevirtual 89, 3) := by decide +kernel
theorem dX11_refusalOf_4 : decode cX11_refusalOf 4 = .ok (.ifCond .ne 6, 3) := by decide +kernel
theorem dX11_refusalOf_7 : decode cX11_refusalOf 7 = .ok (.bipush (-103), 2) := by decide +kernel
theorem dX11_refusalOf_9 : decode cX11_refusalOf 9 = .ok (.ireturn, 1) := by decide +kernel
theorem dX11_refusalOf_10 : decode cX11_refusalOf 10 = .ok (.aload_n 0, 1) := by decide +kernel
theorem dX11_refusalOf_11 : decode cX11_refusalOf 11 = .ok (.getfield 12, 3) := by decide +kernel
theorem dX11_refusalOf_14 : decode cX11_refusalOf 14 = .ok (.iload_n 1, 1) := by decide +kernel
theorem dX11_refusalOf_15 : decode cX11_refusalOf 15 = .ok (.invokevirtual 128, 3) := by decide +kernel
theorem dX11_refusalOf_18 : decode cX11_refusalOf 18 = .ok (.ifCond .ne 6, 3) := by decide +kernel
theorem dX11_refusalOf_21 : decode cX11_refusalOf 21 = .ok (.bipush (-102), 2) := by decide +kernel
theorem dX11_refusalOf_23 : decode cX11_refusalOf 23 = .ok (.ireturn, 1) := by decide +kernel
theorem dX11_refusalOf_24 : decode cX11_refusalOf 24 = .ok (.aload_n 2, 1) := by decide +kernel
theorem dX11_refusalOf_25 : decode cX11_refusalOf 25 = .ok (.invokevirtual 145, 3) := by decide +kernel
theorem dX11_refusalOf_28 : decode cX11_refusalOf 28 = .ok (.ifCond .eq 8, 3) := by decide +kernel
theorem dX11_refusalOf_31 : decode cX11_refusalOf 31 = .ok (.bipush (-104), 2) := by decide +kernel
theorem dX11_refusalOf_33 : decode cX11_refusalOf 33 = .ok (.goto 4, 3) := by decide +kernel
theorem dX11_refusalOf_36 : decode cX11_refusalOf 36 = .ok (.iconst 0, 1) := by decide +kernel
theorem dX11_refusalOf_37 : decode cX11_refusalOf 37 = .ok (.ireturn, 1) := by decide +kernel
theorem dX11_howMany_0 : decode cX11_howMany 0 = .ok (.iload_n 1, 1) := by decide +kernel
theorem dX11_howMany_1 : decode cX11_howMany 1 = .ok (.tableswitch 96 0 6 #[43, 51, 59, 67, 75, 83, 91], 43) := by decide +kernel
theorem dX11_howMany_44 : decode cX11_howMany 44 = .ok (.aload_n 0, 1) := by decide +kernel
theorem dX11_howMany_45 : decode cX11_howMany 45 = .ok (.getfield 12, 3) := by decide +kernel
theorem dX11_howMany_48 : decode cX11_howMany 48 = .ok (.invokevirtual 122, 3) := by decide +kernel
theorem dX11_howMany_51 : decode cX11_howMany 51 = .ok (.ireturn, 1) := by decide +kernel
theorem dX11_howMany_52 : decode cX11_howMany 52 = .ok (.aload_n 0, 1) := by decide +kernel
theorem dX11_howMany_53 : decode cX11_howMany 53 = .ok (.getfield 57, 3) := by decide +kernel
theorem dX11_howMany_56 : decode cX11_howMany 56 = .ok (.invokevirtual 154, 3) := by decide +kernel
theorem dX11_howMany_59 : decode cX11_howMany 59 = .ok (.ireturn, 1) := by decide +kernel
theorem dX11_howMany_60 : decode cX11_howMany 60 = .ok (.aload_n 0, 1) := by decide +kernel
theorem dX11_howMany_61 : decode cX11_howMany 61 = .ok (.getfield 21, 3) := by decide +kernel
theorem dX11_howMany_64 : decode cX11_howMany 64 = .ok (.invokevirtual 239, 3) := by decide +kernel
theorem dX11_howMany_67 : decode cX11_howMany 67 = .ok (.ireturn, 1) := by decide +kernel
theorem dX11_howMany_68 : decode cX11_howMany 68 = .ok (.aload_n 0, 1) := by decide +kernel
theorem dX11_howMany_69 : decode cX11_howMany 69 = .ok (.getfield 60, 3) := by decide +kernel
theorem dX11_howMany_72 : decode cX11_howMany 72 = .ok (.invokevirtual 154, 3) := by decide +kernel
theorem dX11_howMany_75 : decode cX11_howMany 75 = .ok (.ireturn, 1) := by decide +kernel
theorem dX11_howMany_76 : decode cX11_howMany 76 = .ok (.aload_n 0, 1) := by decide +kernel
theorem dX11_howMany_77 : decode cX11_howMany 77 = .ok (.getfield 63, 3) := by decide +kernel
theorem dX11_howMany_80 : decode cX11_howMany 80 = .ok (.invokevirtual 154, 3) := by decide +kernel
theorem dX11_howMany_83 : decode cX11_howMany 83 = .ok (.ireturn, 1) := by decide +kernel
theorem dX11_howMany_84 : decode cX11_howMany 84 = .ok (.aload_n 0, 1) := by decide +kernel
theorem dX11_howMany_85 : decode cX11_howMany 85 = .ok (.getfield 53, 3) := by decide +kernel
theorem dX11_howMany_88 : decode cX11_howMany 88 = .ok (.invokevirtual 154, 3) := by decide +kernel
theorem dX11_howMany_91 : decode cX11_howMany 91 = .ok (.ireturn, 1) := by decide +kernel
theorem dX11_howMany_92 : decode cX11_howMany 92 = .ok (.aload_n 0, 1) := by decide +kernel
theorem dX11_howMany_93 : decode cX11_howMany 93 = .ok (.getfield 70, 3) := by decide +kernel
theorem dX11_howMany_96 : decode cX11_howMany 96 = .ok (.ireturn, 1) := by decide +kernel
theorem dX11_howMany_97 : decode cX11_howMany 97 = .ok (.aload_n 0, 1) := by decide +kernel
theorem dX11_howMany_98 : decode cX11_howMany 98 = .ok (.invokevirtual 89, 3) := by decide +kernel
theorem dX11_howMany_101 : decode cX11_howMany 101 = .ok (.ifCond .eq 24, 3) := by decide +kernel
theorem dX11_howMany_104 : decode cX11_howMany 104 = .ok (.aload_n 0, 1) := by decide +kernel
theorem dX11_howMany_105 : decode cX11_howMany 105 = .ok (.getfield 12, 3) := by decide +kernel
theorem dX11_howMany_108 : decode cX11_howMany 108 = .ok (.aload_n 0, 1) := by decide +kernel
theorem dX11_howMany_109 : decode cX11_howMany 109 = .ok (.getfield 66, 3) := by decide +kernel
theorem dX11_howMany_112 : decode cX11_howMany 112 = .ok (.aload_n 0, 1) := by decide +kernel
theorem dX11_howMany_113 : decode cX11_howMany 113 = .ok (.getfield 57, 3) := by decide +kernel
theorem dX11_howMany_116 : decode cX11_howMany 116 = .ok (.invokevirtual 138, 3) := by decide +kernel
theorem dX11_howMany_119 : decode cX11_howMany 119 = .ok (.invokevirtual 131, 3) := by decide +kernel
theorem dX11_howMany_122 : decode cX11_howMany 122 = .ok (.goto 4, 3) := by decide +kernel
theorem dX11_howMany_125 : decode cX11_howMany 125 = .ok (.iconst 0, 1) := by decide +kernel
theorem dX11_howMany_126 : decode cX11_howMany 126 = .ok (.ireturn, 1) := by decide +kernel
theorem dX11_withRow_0 : decode cX11_withRow 0 = .ok (.iconst 0, 1) := by decide +kernel
theorem dX11_withRow_1 : decode cX11_withRow 1 = .ok (.istore_n 3, 1) := by decide +kernel
theorem dX11_withRow_2 : decode cX11_withRow 2 = .ok (.iload_n 3, 1) := by decide +kernel
theorem dX11_withRow_3 : decode cX11_withRow 3 = .ok (.aload_n 2, 1) := by decide +kernel
theorem dX11_withRow_4 : decode cX11_withRow 4 = .ok (.invokevirtual 154, 3) := by decide +kernel
theorem dX11_withRow_7 : decode cX11_withRow 7 = .ok (.if_icmp .ge 22, 3) := by decide +kernel
theorem dX11_withRow_10 : decode cX11_withRow 10 = .ok (.ldc2_w 233, 3) := by decide +kernel
theorem dX11_withRow_13 : decode cX11_withRow 13 = .ok (.lload_n 0, 1) := by decide +kernel
theorem dX11_withRow_14 : decode cX11_withRow 14 = .ok (.lmul, 1) := by decide +kernel
theorem dX11_withRow_15 : decode cX11_withRow 15 = .ok (.aload_n 2, 1) := by decide +kernel
theorem dX11_withRow_16 : decode cX11_withRow 16 = .ok (.iload_n 3, 1) := by decide +kernel
theorem dX11_withRow_17 : decode cX11_withRow 17 = .ok (.invokevirtual 147, 3) := by decide +kernel
theorem dX11_withRow_20 : decode cX11_withRow 20 = .ok (.i2l, 1) := by decide +kernel
theorem dX11_withRow_21 : decode cX11_withRow 21 = .ok (.ladd, 1) := by decide +kernel
theorem dX11_withRow_22 : decode cX11_withRow 22 = .ok (.lstore_n 0, 1) := by decide +kernel
theorem dX11_withRow_23 : decode cX11_withRow 23 = .ok (.iinc 3 1, 3) := by decide +kernel
theorem dX11_withRow_26 : decode cX11_withRow 26 = .ok (.goto (-24), 3) := by decide +kernel
theorem dX11_withRow_29 : decode cX11_withRow 29 = .ok (.lload_n 0, 1) := by decide +kernel
theorem dX11_withRow_30 : decode cX11_withRow 30 = .ok (.lreturn, 1) := by decide +kernel
theorem dX11_withFindings_0 : decode cX11_withFindings 0 = .ok (.ldc2_w 233, 3) := by decide +kernel
theorem dX11_withFindings_3 : decode cX11_withFindings 3 = .ok (.lload_n 1, 1) := by decide +kernel
theorem dX11_withFindings_4 : decode cX11_withFindings 4 = .ok (.lmul, 1) := by decide +kernel
theorem dX11_withFindings_5 : decode cX11_withFindings 5 = .ok (.aload_n 0, 1) := by decide +kernel
theorem dX11_withFindings_6 : decode cX11_withFindings 6 = .ok (.invokevirtual 186, 3) := by decide +kernel
theorem dX11_withFindings_9 : decode cX11_withFindings 9 = .ok (.i2l, 1) := by decide +kernel
theorem dX11_withFindings_10 : decode cX11_withFindings 10 = .ok (.ladd, 1) := by decide +kernel
theorem dX11_withFindings_11 : decode cX11_withFindings 11 = .ok (.lstore_n 1, 1) := by decide +kernel
theorem dX11_withFindings_12 : decode cX11_withFindings 12 = .ok (.ldc2_w 233, 3) := by decide +kernel
theorem dX11_withFindings_15 : decode cX11_withFindings 15 = .ok (.lload_n 1, 1) := by decide +kernel
theorem dX11_withFindings_16 : decode cX11_withFindings 16 = .ok (.lmul, 1) := by decide +kernel
theorem dX11_withFindings_17 : decode cX11_withFindings 17 = .ok (.aload_n 0, 1) := by decide +kernel
theorem dX11_withFindings_18 : decode cX11_withFindings 18 = .ok (.invokevirtual 215, 3) := by decide +kernel
theorem dX11_withFindings_21 : decode cX11_withFindings 21 = .ok (.i2l, 1) := by decide +kernel
theorem dX11_withFindings_22 : decode cX11_withFindings 22 = .ok (.ladd, 1) := by decide +kernel
theorem dX11_withFindings_23 : decode cX11_withFindings 23 = .ok (.lstore_n 1, 1) := by decide +kernel
theorem dX11_withFindings_24 : decode cX11_withFindings 24 = .ok (.aload_n 0, 1) := by decide +kernel
theorem dX11_withFindings_25 : decode cX11_withFindings 25 = .ok (.getfield 44, 3) := by decide +kernel
theorem dX11_withFindings_28 : decode cX11_withFindings 28 = .ok (.aload_n 0, 1) := by decide +kernel
theorem dX11_withFindings_29 : decode cX11_withFindings 29 = .ok (.getfield 63, 3) := by decide +kernel
theorem dX11_withFindings_32 : decode cX11_withFindings 32 = .ok (.invokevirtual 218, 3) := by decide +kernel
