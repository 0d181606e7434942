theorem d_Mo_link_0 : decode b_Mo_link 0 = .ok (.aload_n 0, 1) := by decide +kernel
theorem d_Mo_link_1 : decode b_Mo_link 1 = .ok (.iload_n 1, 1) := by decide +kernel
theorem d_Mo_link_2 : decode b_Mo_link 2 = .ok (.invokevirtual 99, 3) := by decide +kernel
theorem d_Mo_link_5 : decode b_Mo_link 5 = .ok (.ifCond .eq (11), 3) := by decide +kernel
theorem d_Mo_link_8 : decode b_Mo_link 8 = .ok (.aload_n 0, 1) := by decide +kernel
theorem d_Mo_link_9 : decode b_Mo_link 9 = .ok (.iload_n 2, 1) := by decide +kernel
theorem d_Mo_link_10 : decode b_Mo_link 10 = .ok (.invokevirtual 99, 3) := by decide +kernel
theorem d_Mo_link_13 : decode b_Mo_link 13 = .ok (.ifCond .ne (5), 3) := by decide +kernel
theorem d_Mo_link_16 : decode b_Mo_link 16 = .ok (.iconst (-1), 1) := by decide +kernel
theorem d_Mo_link_17 : decode b_Mo_link 17 = .ok (.ireturn, 1) := by decide +kernel
theorem d_Mo_link_18 : decode b_Mo_link 18 = .ok (.aload_n 0, 1) := by decide +kernel
theorem d_Mo_link_19 : decode b_Mo_link 19 = .ok (.iconst (-1), 1) := by decide +kernel
theorem d_Mo_link_20 : decode b_Mo_link 20 = .ok (.iload_n 1, 1) := by decide +kernel
theorem d_Mo_link_21 : decode b_Mo_link 21 = .ok (.iload_n 2, 1) := by decide +kernel
theorem d_Mo_link_22 : decode b_Mo_link 22 = .ok (.iload_n 3, 1) := by decide +kernel
theorem d_Mo_link_23 : decode b_Mo_link 23 = .ok (.iload 4, 2) := by decide +kernel
theorem d_Mo_link_25 : decode b_Mo_link 25 = .ok (.invokevirtual 217, 3) := by decide +kernel
theorem d_Mo_link_28 : decode b_Mo_link 28 = .ok (.ireturn, 1) := by decide +kernel
theorem d_CL_linkAt_0 : decode b_CL_linkAt 0 = .ok (.iload_n 1, 1) := by decide +kernel
theorem d_CL_linkAt_1 : decode b_CL_linkAt 1 = .ok (.ifCond .lt (20), 3) := by decide +kernel
theorem d_CL_linkAt_4 : decode b_CL_linkAt 4 = .ok (.iload_n 1, 1) := by decide +kernel
theorem d_CL_linkAt_5 : decode b_CL_linkAt 5 = .ok (.aload_n 0, 1) := by decide +kernel
theorem d_CL_linkAt_6 : decode b_CL_linkAt 6 = .ok (.getfield 135, 3) := by decide +kernel
theorem d_CL_linkAt_9 : decode b_CL_linkAt 9 = .ok (.if_icmp .ge (12), 3) := by decide +kernel
theorem d_CL_linkAt_12 : decode b_CL_linkAt 12 = .ok (.aload_n 0, 1) := by decide +kernel
theorem d_CL_linkAt_13 : decode b_CL_linkAt 13 = .ok (.getfield 24, 3) := by decide +kernel
theorem d_CL_linkAt_16 : decode b_CL_linkAt 16 = .ok (.iload_n 1, 1) := by decide +kernel
theorem d_CL_linkAt_17 : decode b_CL_linkAt 17 = .ok (.aaload, 1) := by decide +kernel
theorem d_CL_linkAt_18 : decode b_CL_linkAt 18 = .ok (.goto (4), 3) := by decide +kernel
theorem d_CL_linkAt_21 : decode b_CL_linkAt 21 = .ok (.aconst_null, 1) := by decide +kernel
theorem d_CL_linkAt_22 : decode b_CL_linkAt 22 = .ok (.areturn, 1) := by decide +kernel
theorem d_CL_extend_0 : decode b_CL_extend 0 = .ok (.aload_n 0, 1) := by decide +kernel
theorem d_CL_extend_1 : decode b_CL_extend 1 = .ok (.iload_n 1, 1) := by decide +kernel
theorem d_CL_extend_2 : decode b_CL_extend 2 = .ok (.invokevirtual 127, 3) := by decide +kernel
theorem d_CL_extend_5 : decode b_CL_extend 5 = .ok (.astore 5, 2) := by decide +kernel
theorem d_CL_extend_7 : decode b_CL_extend 7 = .ok (.aload 5, 2) := by decide +kernel
theorem d_CL_extend_9 : decode b_CL_extend 9 = .ok (.ifnonnull (7), 3) := by decide +kernel
theorem d_CL_extend_12 : decode b_CL_extend 12 = .ok (.iconst (-1), 1) := by decide +kernel
theorem d_CL_extend_13 : decode b_CL_extend 13 = .ok (.goto (22), 3) := by decide +kernel
theorem d_CL_extend_16 : decode b_CL_extend 16 = .ok (.aload_n 0, 1) := by decide +kernel
theorem d_CL_extend_17 : decode b_CL_extend 17 = .ok (.aload 5, 2) := by decide +kernel
theorem d_CL_extend_19 : decode b_CL_extend 19 = .ok (.aload 5, 2) := by decide +kernel
theorem d_CL_extend_21 : decode b_CL_extend 21 = .ok (.getfield 131, 3) := by decide +kernel
theorem d_CL_extend_24 : decode b_CL_extend 24 = .ok (.aload_n 0, 1) := by decide +kernel
theorem d_CL_extend_25 : decode b_CL_extend 25 = .ok (.iload_n 2, 1) := by decide +kernel
theorem d_CL_extend_26 : decode b_CL_extend 26 = .ok (.invokevirtual 85, 3) := by decide +kernel
theorem d_CL_extend_29 : decode b_CL_extend 29 = .ok (.iload_n 3, 1) := by decide +kernel
theorem d_CL_extend_30 : decode b_CL_extend 30 = .ok (.iload 4, 2) := by decide +kernel
theorem d_CL_extend_32 : decode b_CL_extend 32 = .ok (.invokevirtual 123, 3) := by decide +kernel
theorem d_CL_extend_35 : decode b_CL_extend 35 = .ok (.ireturn, 1) := by decide +kernel
theorem d_Mo_linked_0 : decode b_Mo_linked 0 = .ok (.iload_n 1, 1) := by decide +kernel
theorem d_Mo_linked_1 : decode b_Mo_linked 1 = .ok (.ifCond .lt (15), 3) := by decide +kernel
theorem d_Mo_linked_4 : decode b_Mo_linked 4 = .ok (.iload_n 1, 1) := by decide +kernel
theorem d_Mo_linked_5 : decode b_Mo_linked 5 = .ok (.aload_n 0, 1) := by decide +kernel
theorem d_Mo_linked_6 : decode b_Mo_linked 6 = .ok (.getfield 209, 3) := by decide +kernel
theorem d_Mo_linked_9 : decode b_Mo_linked 9 = .ok (.if_icmp .ge (7), 3) := by decide +kernel
theorem d_Mo_linked_12 : decode b_Mo_linked 12 = .ok (.iconst (1), 1) := by decide +kernel
theorem d_Mo_linked_13 : decode b_Mo_linked 13 = .ok (.goto (4), 3) := by decide +kernel
theorem d_Mo_linked_16 : decode b_Mo_linked 16 = .ok (.iconst (0), 1) := by decide +kernel
theorem d_Mo_linked_17 : decode b_Mo_linked 17 = .ok (.ireturn, 1) := by decide +kernel
theorem d_Mo_extend_0 : decode b_Mo_extend 0 = .ok (.aload_n 0, 1) := by decide +kernel
theorem d_Mo_extend_1 : decode b_Mo_extend 1 = .ok (.iload_n 1, 1) := by decide +kernel
theorem d_Mo_extend_2 : decode b_Mo_extend 2 = .ok (.invokevirtual 221, 3) := by decide +kernel
theorem d_Mo_extend_5 : decode b_Mo_extend 5 = .ok (.ifCond .eq (11), 3) := by decide +kernel
theorem d_Mo_extend_8 : decode b_Mo_extend 8 = .ok (.aload_n 0, 1) := by decide +kernel
theorem d_Mo_extend_9 : decode b_Mo_extend 9 = .ok (.iload_n 2, 1) := by decide +kernel
theorem d_Mo_extend_10 : decode b_Mo_extend 10 = .ok (.invokevirtual 99, 3) := by decide +kernel
theorem d_Mo_extend_13 : decode b_Mo_extend 13 = .ok (.ifCond .ne (5), 3) := by decide +kernel
theorem d_Mo_extend_16 : decode b_Mo_extend 16 = .ok (.iconst (-1), 1) := by decide +kernel
theorem d_Mo_extend_17 : decode b_Mo_extend 17 = .ok (.ireturn, 1) := by decide +kernel
theorem d_Mo_extend_18 : decode b_Mo_extend 18 = .ok (.aload_n 0, 1) := by decide +kernel
theorem d_Mo_extend_19 : decode b_Mo_extend 19 = .ok (.iload_n 1, 1) := by decide +kernel
theorem d_Mo_extend_20 : decode b_Mo_extend 20 = .ok (.aload_n 0, 1) := by decide +kernel
theorem d_Mo_extend_21 : decode b_Mo_extend 21 = .ok (.getfield 22, 3) := by decide +kernel
theorem d_Mo_extend_24 : decode b_Mo_extend 24 = .ok (.iload_n 1, 1) := by decide +kernel
theorem d_Mo_extend_25 : decode b_Mo_extend 25 = .ok (.iaload, 1) := by decide +kernel
theorem d_Mo_extend_26 : decode b_Mo_extend 26 = .ok (.iload_n 2, 1) := by decide +kernel
theorem d_Mo_extend_27 : decode b_Mo_extend 27 = .ok (.iload_n 3, 1) := by decide +kernel
theorem d_Mo_extend_28 : decode b_Mo_extend 28 = .ok (.iload 4, 2) := by decide +kernel
theorem d_Mo_extend_30 : decode b_Mo_extend 30 = .ok (.invokevirtual 217, 3) := by decide +kernel
theorem d_Mo_extend_33 : decode b_Mo_extend 33 = .ok (.ireturn, 1) := by decide +kernel
theorem d_CL_links_0 : decode b_CL_links 0 = .ok (.aload_n 0, 1) := by decide +kernel
theorem d_CL_links_1 : decode b_CL_links 1 = .ok (.getfield 135, 3) := by decide +kernel
theorem d_CL_links_4 : decode b_CL_links 4 = .ok (.ireturn, 1) := by decide +kernel
theorem d_Mo_links_0 : decode b_Mo_links 0 = .ok (.aload_n 0, 1) := by decide +kernel
theorem d_Mo_links_1 : decode b_Mo_links 1 = .ok (.getfield 209, 3) := by decide +kernel
theorem d_Mo_links_4 : decode b_Mo_links 4 = .ok (.ireturn, 1) := by decide +kernel
theorem d_CL_pieces_0 : decode b_CL_pieces 0 = .ok (.aload_n 0, 1) := by decide +kernel
theorem d_CL_pieces_1 : decode b_CL_pieces 1 = .ok (.iload_n 1, 1) := by decide +kernel
theorem d_CL_pieces_2 : decode b_CL_pieces 2 = .ok (.invokevirtual 127, 3) := by decide +kernel
theorem d_CL_pieces_5 : decode b_CL_pieces 5 = .ok (.astore_n 2, 1) := by decide +kernel
theorem d_CL_pieces_6 : decode b_CL_pieces 6 = .ok (.aload_n 2, 1) := by decide +kernel
theorem d_CL_pieces_7 : decode b_CL_pieces 7 = .ok (.ifnonnull (7), 3) := by decide +kernel
theorem d_CL_pieces_10 : decode b_CL_pieces 10 = .ok (.iconst (-1), 1) := by decide +kernel
theorem d_CL_pieces_11 : decode b_CL_pieces 11 = .ok (.goto (8), 3) := by decide +kernel
theorem d_CL_pieces_14 : decode b_CL_pieces 14 = .ok (.aload_n 2, 1) := by decide +kernel
theorem d_CL_pieces_15 : decode b_CL_pieces 15 = .ok (.getfield 138, 3) := by decide +kernel
theorem d_CL_pieces_18 : decode b_CL_pieces 18 = .ok (.arraylength, 1) := by decide +kernel
theorem d_CL_pieces_19 : decode b_CL_pieces 19 = .ok (.ireturn, 1) := by decide +kernel
theorem d_Mo_pieces_0 : decode b_Mo_pieces 0 = .ok (.aload_n 0, 1) := by decide +kernel
theorem d_Mo_pieces_1 : decode b_Mo_pieces 1 = .ok (.iload_n 1, 1) := by decide +kernel
theorem d_Mo_pieces_2 : decode b_Mo_pieces 2 = .ok (.invokevirtual 221, 3) := by decide +kernel
theorem d_Mo_pieces_5 : decode b_Mo_pieces 5 = .ok (.ifCond .ne (5), 3) := by decide +kernel
theorem d_Mo_pieces_8 : decode b_Mo_pieces 8 = .ok (.iconst (-1), 1) := by decide +kernel
theorem d_Mo_pieces_9 : decode b_Mo_pieces 9 = .ok (.ireturn, 1) := by decide +kernel
theorem d_Mo_pieces_10 : decode b_Mo_pieces 10 = .ok (.aload_n 0, 1) := by decide +kernel
theorem d_Mo_pieces_11 : decode b_Mo_pieces 11 = .ok (.iload_n 1, 1) := by decide +kernel
theorem d_Mo_pieces_12 : decode b_Mo_pieces 12 = .ok (.invokevirtual 212, 3) := by decide +kernel
theorem d_Mo_pieces_15 : decode b_Mo_pieces 15 = .ok (.aload_n 0, 1) := by decide +kernel
theorem d_Mo_pieces_16 : decode b_Mo_pieces 16 = .ok (.getfield 141, 3) := by decide +kernel
theorem d_Mo_pieces_19 : decode b_Mo_pieces 19 = .ok (.ireturn, 1) := by decide +kernel
theorem d_CL_piece_0 : decode b_CL_piece 0 = .ok (.aload_n 0, 1) := by decide +kernel
theorem d_CL_piece_1 : decode b_CL_piece 1 = .ok (.iload_n 1, 1) := by decide +kernel
theorem d_CL_piece_2 : decode b_CL_piece 2 = .ok (.invokevirtual 127, 3) := by decide +kernel
theorem d_CL_piece_5 : decode b_CL_piece 5 = .ok (.astore_n 3, 1) := by decide +kernel
theorem d_CL_piece_6 : decode b_CL_piece 6 = .ok (.aload_n 3, 1) := by decide +kernel
theorem d_CL_piece_7 : decode b_CL_piece 7 = .ok (.ifnull (16), 3) := by decide +kernel
theorem d_CL_piece_10 : decode b_CL_piece 10 = .ok (.iload_n 2, 1) := by decide +kernel
theorem d_CL_piece_11 : decode b_CL_piece 11 = .ok (.ifCond .lt (12), 3) := by decide +kernel
theorem d_CL_piece_14 : decode b_CL_piece 14 = .ok (.iload_n 2, 1) := by decide +kernel
theorem d_CL_piece_15 : decode b_CL_piece 15 = .ok (.aload_n 3, 1) := by decide +kernel
theorem d_CL_piece_16 : decode b_CL_piece 16 = .ok (.getfield 138, 3) := by decide +kernel
theorem d_CL_piece_19 : decode b_CL_piece 19 = .ok (.arraylength, 1) := by decide +kernel
theorem d_CL_piece_20 : decode b_CL_piece 20 = .ok (.if_icmp .lt (5), 3) := by decide +kernel
theorem d_CL_piece_23 : decode b_CL_piece 23 = .ok (.iconst (-1), 1) := by decide +kernel
theorem d_CL_piece_24 : decode b_CL_piece 24 = .ok (.ireturn, 1) := by decide +kernel
theorem d_CL_piece_25 : decode b_CL_piece 25 = .ok (.aload_n 3, 1) := by decide +kernel
theorem d_CL_piece_26 : decode b_CL_piece 26 = .ok (.getfield 138, 3) := by decide +kernel
theorem d_CL_piece_29 : decode b_CL_piece 29 = .ok (.iload_n 2, 1) := by decide +kernel
theorem d_CL_piece_30 : decode b_CL_piece 30 = .ok (.aaload, 1) := by decide +kernel
theorem d_CL_piece_31 : decode b_CL_piece 31 = .ok (.getfield 141, 3) := by decide +kernel
theorem d_CL_piece_34 : decode b_CL_piece 34 = .ok (.ireturn, 1) := by decide +kernel
theorem d_Mo_piece_0 : decode b_Mo_piece 0 = .ok (.aload_n 0, 1) := by decide +kernel
theorem d_Mo_piece_1 : decode b_Mo_piece 1 = .ok (.iload_n 1, 1) := by decide +kernel
theorem d_Mo_piece_2 : decode b_Mo_piece 2 = .ok (.invokevirtual 224, 3) := by decide +kernel
theorem d_Mo_piece_5 : decode b_Mo_piece 5 = .ok (.istore_n 3, 1) := by decide +kernel
theorem d_Mo_piece_6 : decode b_Mo_piece 6 = .ok (.iload_n 2, 1) := by decide +kernel
theorem d_Mo_piece_7 : decode b_Mo_piece 7 = .ok (.ifCond .lt (8), 3) := by decide +kernel
theorem d_Mo_piece_10 : decode b_Mo_piece 10 = .ok (.iload_n 2, 1) := by decide +kernel
theorem d_Mo_piece_11 : decode b_Mo_piece 11 = .ok (.iload_n 3, 1) := by decide +kernel
theorem d_Mo_piece_12 : decode b_Mo_piece 12 = .ok (.if_icmp .lt (7), 3) := by decide +kernel
theorem d_Mo_piece_15 : decode b_Mo_piece 15 = .ok (.iconst (-1), 1) := by decide +kernel
theorem d_Mo_piece_16 : decode b_Mo_piece 16 = .ok (.goto (9), 3) := by decide +kernel
theorem d_Mo_piece_19 : decode b_Mo_piece 19 = .ok (.aload_n 0, 1) := by decide +kernel
theorem d_Mo_piece_20 : decode b_Mo_piece 20 = .ok (.getfield 36, 3) := by decide +kernel
theorem d_Mo_piece_23 : decode b_Mo_piece 23 = .ok (.iload_n 2, 1) := by decide +kernel
theorem d_Mo_piece_24 : decode b_Mo_piece 24 = .ok (.iaload, 1) := by decide +kernel
theorem d_Mo_piece_25 : decode b_Mo_piece 25 = .ok (.ireturn, 1) := by decide +kernel
theorem d_Profile_channels_0 : decode b_Profile_channels 0 = .ok (.aload_n 0, 1) := by decide +kernel
theorem d_Profile_channels_1 : decode b_Profile_channels 1 = .ok (.getfield 33, 3) := by decide +kernel
theorem d_Profile_channels_4 : decode b_Profile_channels 4 = .ok (.iconst (3), 1) := by decide +kernel
theorem d_Profile_channels_5 : decode b_Profile_channels 5 = .ok (.iaload, 1) := by decide +kernel
theorem d_Profile_channels_6 : decode b_Profile_channels 6 = .ok (.ireturn, 1) := by decide +kernel
theorem d_CL_take_0 : decode b_CL_take 0 = .ok (.aload_n 1, 1) := by decide +kernel
theorem d_CL_take_1 : decode b_CL_take 1 = .ok (.getfield 168, 3) := by decide +kernel
theorem d_CL_take_4 : decode b_CL_take 4 = .ok (.invokevirtual 171, 3) := by decide +kernel
theorem d_CL_take_7 : decode b_CL_take 7 = .ok (.iconst (1), 1) := by decide +kernel
theorem d_CL_take_8 : decode b_CL_take 8 = .ok (.if_icmp .ne (7), 3) := by decide +kernel
theorem d_CL_take_11 : decode b_CL_take 11 = .ok (.iconst (1), 1) := by decide +kernel
theorem d_CL_take_12 : decode b_CL_take 12 = .ok (.goto (4), 3) := by decide +kernel
theorem d_CL_take_15 : decode b_CL_take 15 = .ok (.iconst (0), 1) := by decide +kernel
theorem d_CL_take_16 : decode b_CL_take 16 = .ok (.istore 5, 2) := by decide +kernel
theorem d_CL_take_18 : decode b_CL_take 18 = .ok (.iload_n 2, 1) := by decide +kernel
theorem d_CL_take_19 : decode b_CL_take 19 = .ok (.invokestatic 103, 3) := by decide +kernel
theorem d_CL_take_22 : decode b_CL_take 22 = .ok (.ifCond .eq (23), 3) := by decide +kernel
theorem d_CL_take_25 : decode b_CL_take 25 = .ok (.iload 5, 2) := by decide +kernel
theorem d_CL_take_27 : decode b_CL_take 27 = .ok (.ifCond .ne (20), 3) := by decide +kernel
theorem d_CL_take_30 : decode b_CL_take 30 = .ok (.iload_n 3, 1) := by decide +kernel
theorem d_CL_take_31 : decode b_CL_take 31 = .ok (.invokestatic 103, 3) := by decide +kernel
theorem d_CL_take_34 : decode b_CL_take 34 = .ok (.ifCond .eq (11), 3) := by decide +kernel
theorem d_CL_take_37 : decode b_CL_take 37 = .ok (.iload 4, 2) := by decide +kernel
theorem d_CL_take_39 : decode b_CL_take 39 = .ok (.invokestatic 103, 3) := by decide +kernel
theorem d_CL_take_42 : decode b_CL_take 42 = .ok (.ifCond .ne (5), 3) := by decide +kernel
theorem d_CL_take_45 : decode b_CL_take 45 = .ok (.iconst (0), 1) := by decide +kernel
theorem d_CL_take_46 : decode b_CL_take 46 = .ok (.ireturn, 1) := by decide +kernel
theorem d_CL_take_47 : decode b_CL_take 47 = .ok (.aload_n 0, 1) := by decide +kernel
theorem d_CL_take_48 : decode b_CL_take 48 = .ok (.getfield 46, 3) := by decide +kernel
theorem d_CL_take_51 : decode b_CL_take 51 = .ok (.iconst (0), 1) := by decide +kernel
theorem d_CL_take_52 : decode b_CL_take 52 = .ok (.iload_n 2, 1) := by decide +kernel
theorem d_CL_take_53 : decode b_CL_take 53 = .ok (.iastore, 1) := by decide +kernel
theorem d_CL_take_54 : decode b_CL_take 54 = .ok (.aload_n 0, 1) := by decide +kernel
theorem d_CL_take_55 : decode b_CL_take 55 = .ok (.getfield 46, 3) := by decide +kernel
theorem d_CL_take_58 : decode b_CL_take 58 = .ok (.iconst (1), 1) := by decide +kernel
theorem d_CL_take_59 : decode b_CL_take 59 = .ok (.iload 5, 2) := by decide +kernel
theorem d_CL_take_61 : decode b_CL_take 61 = .ok (.ifCond .eq (7), 3) := by decide +kernel
theorem d_CL_take_64 : decode b_CL_take 64 = .ok (.iconst (0), 1) := by decide +kernel
theorem d_CL_take_65 : decode b_CL_take 65 = .ok (.goto (4), 3) := by decide +kernel
theorem d_CL_take_68 : decode b_CL_take 68 = .ok (.iload_n 3, 1) := by decide +kernel
theorem d_CL_take_69 : decode b_CL_take 69 = .ok (.iastore, 1) := by decide +kernel
theorem d_CL_take_70 : decode b_CL_take 70 = .ok (.aload_n 0, 1) := by decide +kernel
theorem d_CL_take_71 : decode b_CL_take 71 = .ok (.getfield 46, 3) := by decide +kernel
theorem d_CL_take_74 : decode b_CL_take 74 = .ok (.iconst (2), 1) := by decide +kernel
theorem d_CL_take_75 : decode b_CL_take 75 = .ok (.iload 5, 2) := by decide +kernel
theorem d_CL_take_77 : decode b_CL_take 77 = .ok (.ifCond .eq (7), 3) := by decide +kernel
theorem d_CL_take_80 : decode b_CL_take 80 = .ok (.iconst (0), 1) := by decide +kernel
theorem d_CL_take_81 : decode b_CL_take 81 = .ok (.goto (5), 3) := by decide +kernel
theorem d_CL_take_84 : decode b_CL_take 84 = .ok (.iload 4, 2) := by decide +kernel
theorem d_CL_take_86 : decode b_CL_take 86 = .ok (.iastore, 1) := by decide +kernel
theorem d_CL_take_87 : decode b_CL_take 87 = .ok (.iconst (1), 1) := by decide +kernel
theorem d_CL_take_88 : decode b_CL_take 88 = .ok (.ireturn, 1) := by decide +kernel
theorem d_CL_packed_0 : decode b_CL_packed 0 = .ok (.aload_n 0, 1) := by decide +kernel
theorem d_CL_packed_1 : decode b_CL_packed 1 = .ok (.iconst (0), 1) := by decide +kernel
theorem d_CL_packed_2 : decode b_CL_packed 2 = .ok (.iaload, 1) := by decide +kernel
theorem d_CL_packed_3 : decode b_CL_packed 3 = .ok (.i2l, 1) := by decide +kernel
theorem d_CL_packed_4 : decode b_CL_packed 4 = .ok (.bipush (32), 2) := by decide +kernel
theorem d_CL_packed_6 : decode b_CL_packed 6 = .ok (.lshl, 1) := by decide +kernel
theorem d_CL_packed_7 : decode b_CL_packed 7 = .ok (.aload_n 0, 1) := by decide +kernel
theorem d_CL_packed_8 : decode b_CL_packed 8 = .ok (.iconst (1), 1) := by decide +kernel
theorem d_CL_packed_9 : decode b_CL_packed 9 = .ok (.iaload, 1) := by decide +kernel
theorem d_CL_packed_10 : decode b_CL_packed 10 = .ok (.i2l, 1) := by decide +kernel
theorem d_CL_packed_11 : decode b_CL_packed 11 = .ok (.bipush (16), 2) := by decide +kernel
theorem d_CL_packed_13 : decode b_CL_packed 13 = .ok (.lshl, 1) := by decide +kernel
theorem d_CL_packed_14 : decode b_CL_packed 14 = .ok (.ladd, 1) := by decide +kernel
theorem d_CL_packed_15 : decode b_CL_packed 15 = .ok (.aload_n 0, 1) := by decide +kernel
theorem d_CL_packed_16 : decode b_CL_packed 16 = .ok (.iconst (2), 1) := by decide +kernel
theorem d_CL_packed_17 : decode b_CL_packed 17 = .ok (.iaload, 1) := by decide +kernel
theorem d_CL_packed_18 : decode b_CL_packed 18 = .ok (.i2l, 1) := by decide +kernel
theorem d_CL_packed_19 : decode b_CL_packed 19 = .ok (.ladd, 1) := by decide +kernel
theorem d_CL_packed_20 : decode b_CL_packed 20 = .ok (.lreturn, 1) := by decide +kernel
theorem d_Link_runFirst_0 : decode b_Link_runFirst 0 = .ok (.iconst (0), 1) := by decide +kernel
theorem d_Link_runFirst_1 : decode b_Link_runFirst 1 = .ok (.istore_n 3, 1) := by decide +kernel
theorem d_Link_runFirst_2 : decode b_Link_runFirst 2 = .ok (.iload_n 3, 1) := by decide +kernel
theorem d_Link_runFirst_3 : decode b_Link_runFirst 3 = .ok (.iload_n 1, 1) := by decide +kernel
theorem d_Link_runFirst_4 : decode b_Link_runFirst 4 = .ok (.if_icmp .ge (28), 3) := by decide +kernel
theorem d_Link_runFirst_7 : decode b_Link_runFirst 7 = .ok (.iload_n 3, 1) := by decide +kernel
theorem d_Link_runFirst_8 : decode b_Link_runFirst 8 = .ok (.aload_n 0, 1) := by decide +kernel
theorem d_Link_runFirst_9 : decode b_Link_runFirst 9 = .ok (.getfield 44, 3) := by decide +kernel
theorem d_Link_runFirst_12 : decode b_Link_runFirst 12 = .ok (.arraylength, 1) := by decide +kernel
theorem d_Link_runFirst_13 : decode b_Link_runFirst 13 = .ok (.if_icmp .ge (19), 3) := by decide +kernel
theorem d_Link_runFirst_16 : decode b_Link_runFirst 16 = .ok (.aload_n 0, 1) := by decide +kernel
theorem d_Link_runFirst_17 : decode b_Link_runFirst 17 = .ok (.getfield 44, 3) := by decide +kernel
theorem d_Link_runFirst_20 : decode b_Link_runFirst 20 = .ok (.iload_n 3, 1) := by decide +kernel
theorem d_Link_runFirst_21 : decode b_Link_runFirst 21 = .ok (.aaload, 1) := by decide +kernel
theorem d_Link_runFirst_22 : decode b_Link_runFirst 22 = .ok (.aload_n 2, 1) := by decide +kernel
theorem d_Link_runFirst_23 : decode b_Link_runFirst 23 = .ok (.invokevirtual 48, 3) := by decide +kernel
theorem d_Link_runFirst_26 : decode b_Link_runFirst 26 = .ok (.iinc 3 (1), 3) := by decide +kernel
theorem d_Link_runFirst_29 : decode b_Link_runFirst 29 = .ok (.goto (-27), 3) := by decide +kernel
theorem d_Link_runFirst_32 : decode b_Link_runFirst 32 = .ok (.return_, 1) := by decide +kernel
theorem d_CL_convert_0 : decode b_CL_convert 0 = .ok (.aload_n 0, 1) := by decide +kernel
theorem d_CL_convert_1 : decode b_CL_convert 1 = .ok (.iload_n 1, 1) := by decide +kernel
theorem d_CL_convert_2 : decode b_CL_convert 2 = .ok (.invokevirtual 127, 3) := by decide +kernel
theorem d_CL_convert_5 : decode b_CL_convert 5 = .ok (.astore 5, 2) := by decide +kernel
theorem d_CL_convert_7 : decode b_CL_convert 7 = .ok (.aload 5, 2) := by decide +kernel
theorem d_CL_convert_9 : decode b_CL_convert 9 = .ok (.ifnull (16), 3) := by decide +kernel
theorem d_CL_convert_12 : decode b_CL_convert 12 = .ok (.aload_n 0, 1) := by decide +kernel
theorem d_CL_convert_13 : decode b_CL_convert 13 = .ok (.aload 5, 2) := by decide +kernel
theorem d_CL_convert_15 : decode b_CL_convert 15 = .ok (.iload_n 2, 1) := by decide +kernel
theorem d_CL_convert_16 : decode b_CL_convert 16 = .ok (.iload_n 3, 1) := by decide +kernel
theorem d_CL_convert_17 : decode b_CL_convert 17 = .ok (.iload 4, 2) := by decide +kernel
theorem d_CL_convert_19 : decode b_CL_convert 19 = .ok (.invokevirtual 144, 3) := by decide +kernel
theorem d_CL_convert_22 : decode b_CL_convert 22 = .ok (.ifCond .ne (7), 3) := by decide +kernel
theorem d_CL_convert_25 : decode b_CL_convert 25 = .ok (.ldc2_w 148, 3) := by decide +kernel
theorem d_CL_convert_28 : decode b_CL_convert 28 = .ok (.lreturn, 1) := by decide +kernel
theorem d_CL_convert_29 : decode b_CL_convert 29 = .ok (.aload_n 0, 1) := by decide +kernel
theorem d_CL_convert_30 : decode b_CL_convert 30 = .ok (.getfield 46, 3) := by decide +kernel
theorem d_CL_convert_33 : decode b_CL_convert 33 = .ok (.invokestatic 150, 3) := by decide +kernel
theorem d_CL_convert_36 : decode b_CL_convert 36 = .ok (.lstore 6, 2) := by decide +kernel
theorem d_CL_convert_38 : decode b_CL_convert 38 = .ok (.lload 6, 2) := by decide +kernel
theorem d_CL_convert_40 : decode b_CL_convert 40 = .ok (.aload 5, 2) := by decide +kernel
theorem d_CL_convert_42 : decode b_CL_convert 42 = .ok (.getfield 154, 3) := by decide +kernel
theorem d_CL_convert_45 : decode b_CL_convert 45 = .ok (.lcmp, 1) := by decide +kernel
theorem d_CL_convert_46 : decode b_CL_convert 46 = .ok (.ifCond .eq (52), 3) := by decide +kernel
theorem d_CL_convert_49 : decode b_CL_convert 49 = .ok (.aload 5, 2) := by decide +kernel
theorem d_CL_convert_51 : decode b_CL_convert 51 = .ok (.aload 5, 2) := by decide +kernel
theorem d_CL_convert_53 : decode b_CL_convert 53 = .ok (.getfield 138, 3) := by decide +kernel
theorem d_CL_convert_56 : decode b_CL_convert 56 = .ok (.arraylength, 1) := by decide +kernel
theorem d_CL_convert_57 : decode b_CL_convert 57 = .ok (.aload_n 0, 1) := by decide +kernel
theorem d_CL_convert_58 : decode b_CL_convert 58 = .ok (.getfield 46, 3) := by decide +kernel
theorem d_CL_convert_61 : decode b_CL_convert 61 = .ok (.invokevirtual 158, 3) := by decide +kernel
theorem d_CL_convert_64 : decode b_CL_convert 64 = .ok (.aload_n 0, 1) := by decide +kernel
theorem d_CL_convert_65 : decode b_CL_convert 65 = .ok (.dup, 1) := by decide +kernel
theorem d_CL_convert_66 : decode b_CL_convert 66 = .ok (.getfield 162, 3) := by decide +kernel
theorem d_CL_convert_69 : decode b_CL_convert 69 = .ok (.aload 5, 2) := by decide +kernel
theorem d_CL_convert_71 : decode b_CL_convert 71 = .ok (.getfield 138, 3) := by decide +kernel
theorem d_CL_convert_74 : decode b_CL_convert 74 = .ok (.arraylength, 1) := by decide +kernel
theorem d_CL_convert_75 : decode b_CL_convert 75 = .ok (.iadd, 1) := by decide +kernel
theorem d_CL_convert_76 : decode b_CL_convert 76 = .ok (.putfield 162, 3) := by decide +kernel
theorem d_CL_convert_79 : decode b_CL_convert 79 = .ok (.aload 5, 2) := by decide +kernel
theorem d_CL_convert_81 : decode b_CL_convert 81 = .ok (.lload 6, 2) := by decide +kernel
theorem d_CL_convert_83 : decode b_CL_convert 83 = .ok (.putfield 154, 3) := by decide +kernel
theorem d_CL_convert_86 : decode b_CL_convert 86 = .ok (.aload 5, 2) := by decide +kernel
theorem d_CL_convert_88 : decode b_CL_convert 88 = .ok (.aload_n 0, 1) := by decide +kernel
theorem d_CL_convert_89 : decode b_CL_convert 89 = .ok (.getfield 46, 3) := by decide +kernel
theorem d_CL_convert_92 : decode b_CL_convert 92 = .ok (.invokestatic 150, 3) := by decide +kernel
theorem d_CL_convert_95 : decode b_CL_convert 95 = .ok (.putfield 165, 3) := by decide +kernel
theorem d_CL_convert_98 : decode b_CL_convert 98 = .ok (.aload 5, 2) := by decide +kernel
theorem d_CL_convert_100 : decode b_CL_convert 100 = .ok (.getfield 165, 3) := by decide +kernel
theorem d_CL_convert_103 : decode b_CL_convert 103 = .ok (.lreturn, 1) := by decide +kernel
theorem d_Mo_level_0 : decode b_Mo_level 0 = .ok (.iload_n 1, 1) := by decide +kernel
theorem d_Mo_level_1 : decode b_Mo_level 1 = .ok (.ifCond .lt (13), 3) := by decide +kernel
theorem d_Mo_level_4 : decode b_Mo_level 4 = .ok (.iload_n 1, 1) := by decide +kernel
theorem d_Mo_level_5 : decode b_Mo_level 5 = .ok (.ldc 133, 2) := by decide +kernel
theorem d_Mo_level_7 : decode b_Mo_level 7 = .ok (.if_icmp .gt (7), 3) := by decide +kernel
theorem d_Mo_level_10 : decode b_Mo_level 10 = .ok (.iconst (1), 1) := by decide +kernel
theorem d_Mo_level_11 : decode b_Mo_level 11 = .ok (.goto (4), 3) := by decide +kernel
theorem d_Mo_level_14 : decode b_Mo_level 14 = .ok (.iconst (0), 1) := by decide +kernel
theorem d_Mo_level_15 : decode b_Mo_level 15 = .ok (.ireturn, 1) := by decide +kernel
