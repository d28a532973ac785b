/-! ===== instructions of the methods that are walked with ints that are not known ===== -/
def uc_X10_halvings_0 : List ax_EN := [(0, .iconst 0, 1, (0, 0, 0, 0), []), (1, .istore_n 1, 1, (0, 0, 0, 0), []), (2, .iload_n 0, 1, (0, 0, 0, 0), []), (3, .istore_n 2, 1, (0, 0, 0, 0), []), (4, .iload_n 2, 1, (0, 0, 0, 0), []), (5, .ifCond .le 13, 3, (0, 0, 0, 0), []), (8, .iinc 1 1, 3, (0, 0, 0, 0), []), (11, .iload_n 2, 1, (0, 0, 0, 0), []), (12, .iconst 1, 1, (0, 0, 0, 0), []), (13, .ishr, 1, (0, 0, 0, 0), []), (14, .istore_n 2, 1, (0, 0, 0, 0), []), (15, .goto (-11), 3, (0, 0, 0, 0), []), (18, .iload_n 1, 1, (0, 0, 0, 0), []), (19, .ireturn, 1, (0, 0, 0, 0), [])]
def ut_X10_halvings : ax_MI := (RX10, yX10_halvings, cX10_halvings, 3, (some .int), 1, 0, 0, [uc_X10_halvings_0])
def uc_X10_product_0 : List ax_EN := [(0, .iconst 0, 1, (0, 0, 0, 0), []), (1, .istore_n 2, 1, (0, 0, 0, 0), []), (2, .iconst 0, 1, (0, 0, 0, 0), []), (3, .istore_n 3, 1, (0, 0, 0, 0), []), (4, .iload_n 3, 1, (0, 0, 0, 0), []), (5, .iload_n 0, 1, (0, 0, 0, 0), []), (6, .invokestatic 217, 3, (3, 0, 0, 0), [905, 904]), (9, .if_icmp .ge 24, 3, (0, 0, 0, 0), []), (12, .iload_n 0, 1, (0, 0, 0, 0), []), (13, .iload_n 3, 1, (0, 0, 0, 0), []), (14, .ishr, 1, (0, 0, 0, 0), []), (15, .iconst 1, 1, (0, 0, 0, 0), []), (16, .iand, 1, (0, 0, 0, 0), []), (17, .iconst 1, 1, (0, 0, 0, 0), []), (18, .if_icmp .ne 9, 3, (0, 0, 0, 0), []), (21, .iload_n 2, 1, (0, 0, 0, 0), []), (22, .iload_n 1, 1, (0, 0, 0, 0), []), (23, .iload_n 3, 1, (0, 0, 0, 0), []), (24, .ishl, 1, (0, 0, 0, 0), []), (25, .iadd, 1, (0, 0, 0, 0), []), (26, .istore_n 2, 1, (0, 0, 0, 0), []), (27, .iinc 3 1, 3, (0, 0, 0, 0), []), (30, .goto (-26), 3, (0, 0, 0, 0), [])]
def uc_X10_product_1 : List ax_EN := [(33, .iload_n 2, 1, (0, 0, 0, 0), []), (34, .ireturn, 1, (0, 0, 0, 0), [])]
def ut_X10_product : ax_MI := (RX10, yX10_product, cX10_product, 4, (some .int), 2, 0, 0, [uc_X10_product_0, uc_X10_product_1])
def uc_X10_doublings_0 : List ax_EN := [(0, .iconst 0, 1, (0, 0, 0, 0), []), (1, .istore_n 2, 1, (0, 0, 0, 0), []), (2, .iload_n 2, 1, (0, 0, 0, 0), []), (3, .bipush 20, 2, (0, 0, 0, 0), []), (5, .if_icmp .ge 16, 3, (0, 0, 0, 0), []), (8, .iload_n 1, 1, (0, 0, 0, 0), []), (9, .iload_n 2, 1, (0, 0, 0, 0), []), (10, .ishl, 1, (0, 0, 0, 0), []), (11, .iload_n 0, 1, (0, 0, 0, 0), []), (12, .if_icmp .gt 9, 3, (0, 0, 0, 0), []), (15, .iinc 2 1, 3, (0, 0, 0, 0), []), (18, .goto (-16), 3, (0, 0, 0, 0), []), (21, .iload_n 2, 1, (0, 0, 0, 0), []), (22, .ireturn, 1, (0, 0, 0, 0), [])]
def ut_X10_doublings : ax_MI := (RX10, yX10_doublings, cX10_doublings, 3, (some .int), 2, 0, 0, [uc_X10_doublings_0])
def uc_X10_linesTaken_0 : List ax_EN := [(0, .iload_n 0, 1, (0, 0, 0, 0), []), (1, .istore_n 2, 1, (0, 0, 0, 0), []), (2, .iconst 0, 1, (0, 0, 0, 0), []), (3, .istore_n 3, 1, (0, 0, 0, 0), []), (4, .iload_n 0, 1, (0, 0, 0, 0), []), (5, .iload_n 1, 1, (0, 0, 0, 0), []), (6, .invokestatic 224, 3, (3, 2, 0, 0), [915, 914]), (9, .iconst 1, 1, (0, 0, 0, 0), []), (10, .isub, 1, (0, 0, 0, 0), []), (11, .istore 4, 2, (0, 0, 0, 0), []), (13, .iload 4, 2, (0, 0, 0, 0), []), (15, .ifCond .lt 31, 3, (0, 0, 0, 0), []), (18, .iload_n 1, 1, (0, 0, 0, 0), []), (19, .iload 4, 2, (0, 0, 0, 0), []), (21, .ishl, 1, (0, 0, 0, 0), []), (22, .iload_n 2, 1, (0, 0, 0, 0), []), (23, .if_icmp .gt 17, 3, (0, 0, 0, 0), []), (26, .iload_n 2, 1, (0, 0, 0, 0), []), (27, .iload_n 1, 1, (0, 0, 0, 0), []), (28, .iload 4, 2, (0, 0, 0, 0), []), (30, .ishl, 1, (0, 0, 0, 0), []), (31, .isub, 1, (0, 0, 0, 0), [])]
def uc_X10_linesTaken_1 : List ax_EN := [(32, .istore_n 2, 1, (0, 0, 0, 0), []), (33, .iload_n 3, 1, (0, 0, 0, 0), []), (34, .iconst 1, 1, (0, 0, 0, 0), []), (35, .iload 4, 2, (0, 0, 0, 0), []), (37, .ishl, 1, (0, 0, 0, 0), []), (38, .ior, 1, (0, 0, 0, 0), []), (39, .istore_n 3, 1, (0, 0, 0, 0), []), (40, .iinc 4 (-1), 3, (0, 0, 0, 0), []), (43, .goto (-30), 3, (0, 0, 0, 0), []), (46, .iload_n 3, 1, (0, 0, 0, 0), []), (47, .ireturn, 1, (0, 0, 0, 0), [])]
def ut_X10_linesTaken : ax_MI := (RX10, yX10_linesTaken, cX10_linesTaken, 5, (some .int), 2, 0, 0, [uc_X10_linesTaken_0, uc_X10_linesTaken_1])
def uc_X10_times_0 : List ax_EN := [(0, .iload_n 1, 1, (0, 0, 0, 0), []), (1, .iconst 1, 1, (0, 0, 0, 0), []), (2, .if_icmp .lt 22, 3, (0, 0, 0, 0), []), (5, .iload_n 1, 1, (0, 0, 0, 0), []), (6, .sipush 9999, 3, (0, 0, 0, 0), []), (9, .if_icmp .gt 15, 3, (0, 0, 0, 0), []), (12, .iload_n 2, 1, (0, 0, 0, 0), []), (13, .iconst 1, 1, (0, 0, 0, 0), []), (14, .if_icmp .lt 10, 3, (0, 0, 0, 0), []), (17, .iload_n 2, 1, (0, 0, 0, 0), []), (18, .sipush 9999, 3, (0, 0, 0, 0), []), (21, .if_icmp .le 6, 3, (0, 0, 0, 0), []), (24, .bipush (-102), 2, (0, 0, 0, 0), []), (26, .ireturn, 1, (0, 0, 0, 0), []), (27, .iload_n 3, 1, (0, 0, 0, 0), []), (28, .ifCond .ne 9, 3, (0, 0, 0, 0), []), (31, .iload_n 1, 1, (0, 0, 0, 0), [])]
def uc_X10_times_1 : List ax_EN := [(32, .iload_n 2, 1, (0, 0, 0, 0), []), (33, .invokestatic 213, 3, (3, 1, 0, 0), [902, 901]), (36, .ireturn, 1, (0, 0, 0, 0), []), (37, .iload_n 3, 1, (0, 0, 0, 0), []), (38, .iconst 1, 1, (0, 0, 0, 0), []), (39, .if_icmp .ne 8, 3, (0, 0, 0, 0), []), (42, .iload_n 1, 1, (0, 0, 0, 0), []), (43, .invokestatic 217, 3, (3, 0, 0, 0), [905, 904]), (46, .ireturn, 1, (0, 0, 0, 0), []), (47, .iload_n 3, 1, (0, 0, 0, 0), []), (48, .bipush 10, 2, (0, 0, 0, 0), []), (50, .if_icmp .lt 33, 3, (0, 0, 0, 0), []), (53, .iload_n 3, 1, (0, 0, 0, 0), []), (54, .bipush 30, 2, (0, 0, 0, 0), []), (56, .if_icmp .ge 27, 3, (0, 0, 0, 0), []), (59, .iload_n 3, 1, (0, 0, 0, 0), []), (60, .bipush 10, 2, (0, 0, 0, 0), []), (62, .isub, 1, (0, 0, 0, 0), []), (63, .istore 4, 2, (0, 0, 0, 0), [])]
def uc_X10_times_2 : List ax_EN := [(65, .iload 4, 2, (0, 0, 0, 0), []), (67, .iload_n 1, 1, (0, 0, 0, 0), []), (68, .invokestatic 217, 3, (3, 0, 0, 0), [905, 904]), (71, .if_icmp .ge 10, 3, (0, 0, 0, 0), []), (74, .iload_n 1, 1, (0, 0, 0, 0), []), (75, .iload 4, 2, (0, 0, 0, 0), []), (77, .ishr, 1, (0, 0, 0, 0), []), (78, .goto 4, 3, (0, 0, 0, 0), []), (81, .iconst (-1), 1, (0, 0, 0, 0), []), (82, .ireturn, 1, (0, 0, 0, 0), []), (83, .iload_n 3, 1, (0, 0, 0, 0), []), (84, .bipush 30, 2, (0, 0, 0, 0), []), (86, .if_icmp .lt 33, 3, (0, 0, 0, 0), []), (89, .iload_n 3, 1, (0, 0, 0, 0), []), (90, .bipush 50, 2, (0, 0, 0, 0), []), (92, .if_icmp .ge 27, 3, (0, 0, 0, 0), []), (95, .iload_n 3, 1, (0, 0, 0, 0), [])]
def uc_X10_times_3 : List ax_EN := [(96, .bipush 30, 2, (0, 0, 0, 0), []), (98, .isub, 1, (0, 0, 0, 0), []), (99, .istore 4, 2, (0, 0, 0, 0), []), (101, .iload 4, 2, (0, 0, 0, 0), []), (103, .iload_n 1, 1, (0, 0, 0, 0), []), (104, .invokestatic 217, 3, (3, 0, 0, 0), [905, 904]), (107, .if_icmp .ge 10, 3, (0, 0, 0, 0), []), (110, .iload_n 2, 1, (0, 0, 0, 0), []), (111, .iload 4, 2, (0, 0, 0, 0), []), (113, .ishl, 1, (0, 0, 0, 0), []), (114, .goto 4, 3, (0, 0, 0, 0), []), (117, .iconst (-1), 1, (0, 0, 0, 0), []), (118, .ireturn, 1, (0, 0, 0, 0), []), (119, .bipush (-102), 2, (0, 0, 0, 0), []), (121, .ireturn, 1, (0, 0, 0, 0), [])]
def ut_X10_times : ax_MI := (RX10, yX10_times, cX10_times, 5, (some .int), 3, 0, 0, [uc_X10_times_0, uc_X10_times_1, uc_X10_times_2, uc_X10_times_3])
def uc_X10_parts_0 : List ax_EN := [(0, .iload_n 1, 1, (0, 0, 0, 0), []), (1, .ifCond .lt 22, 3, (0, 0, 0, 0), []), (4, .iload_n 1, 1, (0, 0, 0, 0), []), (5, .sipush 9999, 3, (0, 0, 0, 0), []), (8, .if_icmp .gt 15, 3, (0, 0, 0, 0), []), (11, .iload_n 2, 1, (0, 0, 0, 0), []), (12, .iconst 1, 1, (0, 0, 0, 0), []), (13, .if_icmp .lt 10, 3, (0, 0, 0, 0), []), (16, .iload_n 2, 1, (0, 0, 0, 0), []), (17, .sipush 9999, 3, (0, 0, 0, 0), []), (20, .if_icmp .le 6, 3, (0, 0, 0, 0), []), (23, .bipush (-102), 2, (0, 0, 0, 0), []), (25, .ireturn, 1, (0, 0, 0, 0), []), (26, .iload_n 1, 1, (0, 0, 0, 0), []), (27, .iload_n 2, 1, (0, 0, 0, 0), []), (28, .invokestatic 221, 3, (3, 3, 0, 0), [912, 911]), (31, .istore 4, 2, (0, 0, 0, 0), [])]
def uc_X10_parts_1 : List ax_EN := [(33, .iload_n 3, 1, (0, 0, 0, 0), []), (34, .tableswitch 49 0 3 #[30, 33, 40, 46], 30, (0, 0, 0, 0), [])]
def uc_X10_parts_2 : List ax_EN := [(64, .iload 4, 2, (0, 0, 0, 0), []), (66, .ireturn, 1, (0, 0, 0, 0), []), (67, .iload_n 1, 1, (0, 0, 0, 0), []), (68, .iload 4, 2, (0, 0, 0, 0), []), (70, .iload_n 2, 1, (0, 0, 0, 0), []), (71, .imul, 1, (0, 0, 0, 0), []), (72, .isub, 1, (0, 0, 0, 0), []), (73, .ireturn, 1, (0, 0, 0, 0), []), (74, .iload_n 1, 1, (0, 0, 0, 0), []), (75, .iload_n 2, 1, (0, 0, 0, 0), []), (76, .invokestatic 224, 3, (3, 2, 0, 0), [915, 914]), (79, .ireturn, 1, (0, 0, 0, 0), []), (80, .iload 4, 2, (0, 0, 0, 0), []), (82, .ireturn, 1, (0, 0, 0, 0), []), (83, .bipush (-102), 2, (0, 0, 0, 0), []), (85, .ireturn, 1, (0, 0, 0, 0), [])]
def ut_X10_parts : ax_MI := (RX10, yX10_parts, cX10_parts, 5, (some .int), 3, 0, 0, [uc_X10_parts_0, uc_X10_parts_1, uc_X10_parts_2])
def uc_X11_in_0 : List ax_EN := [(0, .iload_n 0, 1, (0, 0, 0, 0), []), (1, .iload_n 1, 1, (0, 0, 0, 0), []), (2, .if_icmp .lt 12, 3, (0, 0, 0, 0), []), (5, .iload_n 0, 1, (0, 0, 0, 0), []), (6, .iload_n 2, 1, (0, 0, 0, 0), []), (7, .if_icmp .gt 7, 3, (0, 0, 0, 0), []), (10, .iconst 1, 1, (0, 0, 0, 0), []), (11, .goto 4, 3, (0, 0, 0, 0), []), (14, .iconst 0, 1, (0, 0, 0, 0), []), (15, .ireturn, 1, (0, 0, 0, 0), [])]
def ut_X11_in : ax_MI := (RX11, yX11_in, cX11_in, 3, (some .boolean), 3, 0, 0, [uc_X11_in_0])
def uc_X11_times_0 : List ax_EN := [(0, .iload_n 1, 1, (0, 0, 0, 0), []), (1, .iconst 1, 1, (0, 0, 0, 0), []), (2, .sipush 9999, 3, (0, 0, 0, 0), []), (5, .invokestatic 120, 3, (3, 6, 0, 0), [1291, 1290]), (8, .ifCond .eq 34, 3, (0, 0, 0, 0), []), (11, .iload_n 2, 1, (0, 0, 0, 0), []), (12, .iconst 1, 1, (0, 0, 0, 0), []), (13, .sipush 9999, 3, (0, 0, 0, 0), []), (16, .invokestatic 120, 3, (3, 6, 0, 0), [1291, 1290]), (19, .ifCond .eq 23, 3, (0, 0, 0, 0), []), (22, .iload_n 3, 1, (0, 0, 0, 0), []), (23, .iconst 0, 1, (0, 0, 0, 0), []), (24, .iconst 1, 1, (0, 0, 0, 0), []), (25, .invokestatic 120, 3, (3, 6, 0, 0), [1291, 1290]), (28, .ifCond .ne 17, 3, (0, 0, 0, 0), []), (31, .iload_n 3, 1, (0, 0, 0, 0), [])]
def uc_X11_times_1 : List ax_EN := [(32, .bipush 10, 2, (0, 0, 0, 0), []), (34, .bipush 49, 2, (0, 0, 0, 0), []), (36, .invokestatic 120, 3, (3, 6, 0, 0), [1291, 1290]), (39, .ifCond .ne 6, 3, (0, 0, 0, 0), []), (42, .bipush (-102), 2, (0, 0, 0, 0), []), (44, .ireturn, 1, (0, 0, 0, 0), []), (45, .iconst 0, 1, (0, 0, 0, 0), []), (46, .istore 4, 2, (0, 0, 0, 0), []), (48, .iconst 0, 1, (0, 0, 0, 0), []), (49, .istore 5, 2, (0, 0, 0, 0), []), (51, .iload_n 1, 1, (0, 0, 0, 0), []), (52, .istore 6, 2, (0, 0, 0, 0), []), (54, .iload_n 2, 1, (0, 0, 0, 0), []), (55, .istore 7, 2, (0, 0, 0, 0), []), (57, .iconst (-1), 1, (0, 0, 0, 0), []), (58, .istore 8, 2, (0, 0, 0, 0), []), (60, .iload 6, 2, (0, 0, 0, 0), []), (62, .ifCond .le 72, 3, (0, 0, 0, 0), [])]
def uc_X11_times_2 : List ax_EN := [(65, .iload_n 3, 1, (0, 0, 0, 0), []), (66, .bipush 10, 2, (0, 0, 0, 0), []), (68, .iload 5, 2, (0, 0, 0, 0), []), (70, .iadd, 1, (0, 0, 0, 0), []), (71, .if_icmp .ne 8, 3, (0, 0, 0, 0), []), (74, .iload 6, 2, (0, 0, 0, 0), []), (76, .goto 19, 3, (0, 0, 0, 0), []), (79, .iload_n 3, 1, (0, 0, 0, 0), []), (80, .bipush 30, 2, (0, 0, 0, 0), []), (82, .iload 5, 2, (0, 0, 0, 0), []), (84, .iadd, 1, (0, 0, 0, 0), []), (85, .if_icmp .ne 8, 3, (0, 0, 0, 0), []), (88, .iload 7, 2, (0, 0, 0, 0), []), (90, .goto 5, 3, (0, 0, 0, 0), []), (93, .iload 8, 2, (0, 0, 0, 0), []), (95, .istore 8, 2, (0, 0, 0, 0), [])]
def uc_X11_times_3 : List ax_EN := [(97, .iload 4, 2, (0, 0, 0, 0), []), (99, .iload 6, 2, (0, 0, 0, 0), []), (101, .iconst 2, 1, (0, 0, 0, 0), []), (102, .irem, 1, (0, 0, 0, 0), []), (103, .iconst 1, 1, (0, 0, 0, 0), []), (104, .if_icmp .ne 8, 3, (0, 0, 0, 0), []), (107, .iload 7, 2, (0, 0, 0, 0), []), (109, .goto 4, 3, (0, 0, 0, 0), []), (112, .iconst 0, 1, (0, 0, 0, 0), []), (113, .iadd, 1, (0, 0, 0, 0), []), (114, .istore 4, 2, (0, 0, 0, 0), []), (116, .iinc 5 1, 3, (0, 0, 0, 0), []), (119, .iload 6, 2, (0, 0, 0, 0), []), (121, .iconst 2, 1, (0, 0, 0, 0), []), (122, .idiv, 1, (0, 0, 0, 0), []), (123, .istore 6, 2, (0, 0, 0, 0), []), (125, .iload 7, 2, (0, 0, 0, 0), []), (127, .iconst 2, 1, (0, 0, 0, 0), [])]
def uc_X11_times_4 : List ax_EN := [(128, .imul, 1, (0, 0, 0, 0), []), (129, .istore 7, 2, (0, 0, 0, 0), []), (131, .goto (-71), 3, (0, 0, 0, 0), []), (134, .iload_n 3, 1, (0, 0, 0, 0), []), (135, .ifCond .ne 8, 3, (0, 0, 0, 0), []), (138, .iload 4, 2, (0, 0, 0, 0), []), (140, .goto 15, 3, (0, 0, 0, 0), []), (143, .iload_n 3, 1, (0, 0, 0, 0), []), (144, .iconst 1, 1, (0, 0, 0, 0), []), (145, .if_icmp .ne 8, 3, (0, 0, 0, 0), []), (148, .iload 5, 2, (0, 0, 0, 0), []), (150, .goto 5, 3, (0, 0, 0, 0), []), (153, .iload 8, 2, (0, 0, 0, 0), []), (155, .ireturn, 1, (0, 0, 0, 0), [])]
def ut_X11_times : ax_MI := (RX11, yX11_times, cX11_times, 9, (some .int), 3, 0, 0, [uc_X11_times_0, uc_X11_times_1, uc_X11_times_2, uc_X11_times_3, uc_X11_times_4])
def uc_X11_parts_0 : List ax_EN := [(0, .iload_n 1, 1, (0, 0, 0, 0), []), (1, .iconst 0, 1, (0, 0, 0, 0), []), (2, .sipush 9999, 3, (0, 0, 0, 0), []), (5, .invokestatic 120, 3, (3, 6, 0, 0), [1291, 1290]), (8, .ifCond .eq 23, 3, (0, 0, 0, 0), []), (11, .iload_n 2, 1, (0, 0, 0, 0), []), (12, .iconst 1, 1, (0, 0, 0, 0), []), (13, .sipush 9999, 3, (0, 0, 0, 0), []), (16, .invokestatic 120, 3, (3, 6, 0, 0), [1291, 1290]), (19, .ifCond .eq 12, 3, (0, 0, 0, 0), []), (22, .iload_n 3, 1, (0, 0, 0, 0), []), (23, .iconst 0, 1, (0, 0, 0, 0), []), (24, .iconst 3, 1, (0, 0, 0, 0), []), (25, .invokestatic 120, 3, (3, 6, 0, 0), [1291, 1290]), (28, .ifCond .ne 6, 3, (0, 0, 0, 0), []), (31, .bipush (-102), 2, (0, 0, 0, 0), [])]
def uc_X11_parts_1 : List ax_EN := [(33, .ireturn, 1, (0, 0, 0, 0), []), (34, .iconst 0, 1, (0, 0, 0, 0), []), (35, .istore 4, 2, (0, 0, 0, 0), []), (37, .iload_n 2, 1, (0, 0, 0, 0), []), (38, .istore 5, 2, (0, 0, 0, 0), []), (40, .iload 5, 2, (0, 0, 0, 0), []), (42, .iload_n 1, 1, (0, 0, 0, 0), []), (43, .if_icmp .gt 15, 3, (0, 0, 0, 0), []), (46, .iinc 4 1, 3, (0, 0, 0, 0), []), (49, .iload 5, 2, (0, 0, 0, 0), []), (51, .iconst 2, 1, (0, 0, 0, 0), []), (52, .imul, 1, (0, 0, 0, 0), []), (53, .istore 5, 2, (0, 0, 0, 0), []), (55, .goto (-15), 3, (0, 0, 0, 0), []), (58, .iload_n 1, 1, (0, 0, 0, 0), []), (59, .istore 5, 2, (0, 0, 0, 0), []), (61, .iconst 0, 1, (0, 0, 0, 0), []), (62, .istore 6, 2, (0, 0, 0, 0), [])]
def uc_X11_parts_2 : List ax_EN := [(64, .iload 4, 2, (0, 0, 0, 0), []), (66, .iconst 1, 1, (0, 0, 0, 0), []), (67, .isub, 1, (0, 0, 0, 0), []), (68, .istore 7, 2, (0, 0, 0, 0), []), (70, .iload 7, 2, (0, 0, 0, 0), []), (72, .ifCond .lt 36, 3, (0, 0, 0, 0), []), (75, .iload_n 2, 1, (0, 0, 0, 0), []), (76, .iload 7, 2, (0, 0, 0, 0), []), (78, .ishl, 1, (0, 0, 0, 0), []), (79, .iload 5, 2, (0, 0, 0, 0), []), (81, .if_icmp .gt 21, 3, (0, 0, 0, 0), []), (84, .iload 5, 2, (0, 0, 0, 0), []), (86, .iload_n 2, 1, (0, 0, 0, 0), []), (87, .iload 7, 2, (0, 0, 0, 0), []), (89, .ishl, 1, (0, 0, 0, 0), []), (90, .isub, 1, (0, 0, 0, 0), []), (91, .istore 5, 2, (0, 0, 0, 0), []), (93, .iload 6, 2, (0, 0, 0, 0), []), (95, .iconst 1, 1, (0, 0, 0, 0), [])]
def uc_X11_parts_3 : List ax_EN := [(96, .iload 7, 2, (0, 0, 0, 0), []), (98, .ishl, 1, (0, 0, 0, 0), []), (99, .ior, 1, (0, 0, 0, 0), []), (100, .istore 6, 2, (0, 0, 0, 0), []), (102, .iinc 7 (-1), 3, (0, 0, 0, 0), []), (105, .goto (-35), 3, (0, 0, 0, 0), []), (108, .iload_n 3, 1, (0, 0, 0, 0), []), (109, .ifCond .ne 8, 3, (0, 0, 0, 0), []), (112, .iload 6, 2, (0, 0, 0, 0), []), (114, .goto 25, 3, (0, 0, 0, 0), []), (117, .iload_n 3, 1, (0, 0, 0, 0), []), (118, .iconst 1, 1, (0, 0, 0, 0), []), (119, .if_icmp .ne 8, 3, (0, 0, 0, 0), []), (122, .iload 5, 2, (0, 0, 0, 0), []), (124, .goto 15, 3, (0, 0, 0, 0), []), (127, .iload_n 3, 1, (0, 0, 0, 0), [])]
def uc_X11_parts_4 : List ax_EN := [(128, .iconst 2, 1, (0, 0, 0, 0), []), (129, .if_icmp .ne 8, 3, (0, 0, 0, 0), []), (132, .iload 4, 2, (0, 0, 0, 0), []), (134, .goto 5, 3, (0, 0, 0, 0), []), (137, .iload 6, 2, (0, 0, 0, 0), []), (139, .ireturn, 1, (0, 0, 0, 0), [])]
def ut_X11_parts : ax_MI := (RX11, yX11_parts, cX11_parts, 8, (some .int), 3, 0, 0, [uc_X11_parts_0, uc_X11_parts_1, uc_X11_parts_2, uc_X11_parts_3, uc_X11_parts_4])
def uc_X4_codeAt_0 : List ax_EN := [(0, .lload_n 0, 1, (0, 0, 0, 0), []), (1, .bipush 8, 2, (0, 0, 0, 0), []), (3, .iload_n 2, 1, (0, 0, 0, 0), []), (4, .imul, 1, (0, 0, 0, 0), []), (7, .sipush 255, 3, (0, 0, 0, 0), []), (10, .iand, 1, (0, 0, 0, 0), []), (11, .ireturn, 1, (0, 0, 0, 0), [])]
def ut_X4_codeAt : ax_MI := (RX4, yX4_codeAt, cX4_codeAt, 3, (some .int), 2, 0, 0, [uc_X4_codeAt_0])
def uc_X4_lettersIn_0 : List ax_EN := [(0, .iconst 0, 1, (0, 0, 0, 0), []), (1, .istore_n 2, 1, (0, 0, 0, 0), []), (2, .iconst 0, 1, (0, 0, 0, 0), []), (3, .istore_n 3, 1, (0, 0, 0, 0), []), (4, .iload_n 3, 1, (0, 0, 0, 0), []), (5, .bipush 8, 2, (0, 0, 0, 0), []), (7, .if_icmp .ge 43, 3, (0, 0, 0, 0), []), (10, .lload_n 0, 1, (0, 0, 0, 0), []), (11, .iload_n 3, 1, (0, 0, 0, 0), []), (12, .invokestatic 19, 3, (3, 9, 0, 0), [463, 462]), (15, .istore 4, 2, (0, 0, 0, 0), []), (17, .iload 4, 2, (0, 0, 0, 0), []), (19, .bipush 126, 2, (0, 0, 0, 0), []), (21, .if_icmp .gt 13, 3, (0, 0, 0, 0), []), (24, .iload 4, 2, (0, 0, 0, 0), []), (26, .ifCond .eq 10, 3, (0, 0, 0, 0), []), (29, .iload_n 2, 1, (0, 0, 0, 0), []), (30, .iload_n 3, 1, (0, 0, 0, 0), []), (31, .if_icmp .ge 5, 3, (0, 0, 0, 0), [])]
def uc_X4_lettersIn_1 : List ax_EN := [(34, .iconst (-1), 1, (0, 0, 0, 0), []), (35, .ireturn, 1, (0, 0, 0, 0), []), (36, .iload 4, 2, (0, 0, 0, 0), []), (38, .ifCond .eq 6, 3, (0, 0, 0, 0), []), (41, .iinc 2 1, 3, (0, 0, 0, 0), []), (44, .iinc 3 1, 3, (0, 0, 0, 0), []), (47, .goto (-43), 3, (0, 0, 0, 0), []), (50, .iload_n 2, 1, (0, 0, 0, 0), []), (51, .ireturn, 1, (0, 0, 0, 0), [])]
def ut_X4_lettersIn : ax_MI := (RX4, yX4_lettersIn, cX4_lettersIn, 5, (some .int), 1, 0, 0, [uc_X4_lettersIn_0, uc_X4_lettersIn_1])
def uc_X4_append_0 : List ax_EN := [(0, .iconst 0, 1, (0, 0, 0, 0), []), (1, .istore 4, 2, (0, 0, 0, 0), []), (3, .iload 4, 2, (0, 0, 0, 0), []), (5, .iload_n 3, 1, (0, 0, 0, 0), []), (6, .if_icmp .ge 43, 3, (0, 0, 0, 0), []), (9, .aload_n 0, 1, (0, 0, 0, 0), []), (10, .getfield 15, 3, (0, 4, 1, 0), [151]), (13, .bipush 80, 2, (0, 0, 0, 0), []), (15, .if_icmp .ge 34, 3, (0, 0, 0, 0), []), (18, .aload_n 0, 1, (0, 0, 0, 0), []), (19, .getfield 11, 3, (0, 4, 0, 0), [148]), (22, .aload_n 0, 1, (0, 0, 0, 0), []), (23, .getfield 15, 3, (0, 4, 1, 0), [151]), (26, .lload_n 1, 1, (0, 0, 0, 0), []), (27, .iload 4, 2, (0, 0, 0, 0), []), (29, .invokestatic 19, 3, (3, 9, 0, 0), [463, 462])]
def uc_X4_append_1 : List ax_EN := [(32, .iastore, 1, (0, 0, 0, 0), []), (33, .aload_n 0, 1, (0, 0, 0, 0), []), (34, .dup, 1, (0, 0, 0, 0), []), (35, .getfield 15, 3, (0, 4, 1, 0), [151]), (38, .iconst 1, 1, (0, 0, 0, 0), []), (39, .iadd, 1, (0, 0, 0, 0), []), (40, .putfield 15, 3, (0, 4, 1, 0), [151]), (43, .iinc 4 1, 3, (0, 0, 0, 0), []), (46, .goto (-43), 3, (0, 0, 0, 0), []), (49, .return_, 1, (0, 0, 0, 0), [])]
def ut_X4_append : ax_MI := (RX4, yX4_append, cX4_append, 5, none, 2, 0, 0, [uc_X4_append_0, uc_X4_append_1])
def uc_X10_letters_0 : List ax_EN := [(0, .lload_n 1, 1, (0, 0, 0, 0), []), (1, .invokestatic 75, 3, (4, 10, 0, 0), [460, 459]), (4, .istore_n 3, 1, (0, 0, 0, 0), []), (5, .iload_n 3, 1, (0, 0, 0, 0), []), (6, .ifCond .ge 6, 3, (0, 0, 0, 0), []), (9, .bipush (-102), 2, (0, 0, 0, 0), []), (11, .ireturn, 1, (0, 0, 0, 0), []), (12, .aload_n 0, 1, (0, 0, 0, 0), []), (13, .getfield 10, 3, (0, 10, 0, 0), [421]), (16, .getfield 79, 3, (1, 4, 1, 0), [154]), (19, .iload_n 3, 1, (0, 0, 0, 0), []), (20, .iadd, 1, (0, 0, 0, 0), []), (21, .bipush 80, 2, (0, 0, 0, 0), []), (23, .if_icmp .le 6, 3, (0, 0, 0, 0), []), (26, .bipush (-104), 2, (0, 0, 0, 0), []), (28, .ireturn, 1, (0, 0, 0, 0), []), (29, .aload_n 0, 1, (0, 0, 0, 0), []), (30, .getfield 10, 3, (0, 10, 0, 0), [421])]
def uc_X10_letters_1 : List ax_EN := [(33, .lload_n 1, 1, (0, 0, 0, 0), []), (34, .iload_n 3, 1, (0, 0, 0, 0), []), (35, .invokevirtual 82, 3, (4, 11, 4, 0), [467, 0, 465]), (38, .aload_n 0, 1, (0, 0, 0, 0), []), (39, .getfield 10, 3, (0, 10, 0, 0), [421]), (42, .getfield 79, 3, (1, 4, 1, 0), [154]), (45, .ireturn, 1, (0, 0, 0, 0), [])]
def ut_X10_letters : ax_MI := (RX10, yX10_letters, cX10_letters, 4, (some .int), 1, 0, 0, [uc_X10_letters_0, uc_X10_letters_1])
def uc_X11_letters_0 : List ax_EN := [(0, .iconst 0, 1, (0, 0, 0, 0), []), (1, .istore_n 3, 1, (0, 0, 0, 0), []), (2, .iconst 0, 1, (0, 0, 0, 0), []), (3, .istore 4, 2, (0, 0, 0, 0), []), (5, .iconst 0, 1, (0, 0, 0, 0), []), (6, .istore 5, 2, (0, 0, 0, 0), []), (8, .iload 5, 2, (0, 0, 0, 0), []), (10, .bipush 8, 2, (0, 0, 0, 0), []), (12, .if_icmp .ge 73, 3, (0, 0, 0, 0), []), (15, .lload_n 1, 1, (0, 0, 0, 0), []), (16, .bipush 8, 2, (0, 0, 0, 0), []), (18, .iload 5, 2, (0, 0, 0, 0), []), (20, .imul, 1, (0, 0, 0, 0), []), (22, .ldc2_w 107, 3, (7, 0, 0, 255), [1273]), (27, .istore 6, 2, (0, 0, 0, 0), []), (29, .iload 6, 2, (0, 0, 0, 0), []), (31, .bipush 126, 2, (0, 0, 0, 0), [])]
def uc_X11_letters_1 : List ax_EN := [(33, .if_icmp .gt 13, 3, (0, 0, 0, 0), []), (36, .iload 4, 2, (0, 0, 0, 0), []), (38, .ifCond .eq 11, 3, (0, 0, 0, 0), []), (41, .iload 6, 2, (0, 0, 0, 0), []), (43, .ifCond .eq 6, 3, (0, 0, 0, 0), []), (46, .bipush (-102), 2, (0, 0, 0, 0), []), (48, .ireturn, 1, (0, 0, 0, 0), []), (49, .iload 4, 2, (0, 0, 0, 0), []), (51, .ifCond .ne 8, 3, (0, 0, 0, 0), []), (54, .iload 6, 2, (0, 0, 0, 0), []), (56, .ifCond .ne 7, 3, (0, 0, 0, 0), []), (59, .iconst 1, 1, (0, 0, 0, 0), []), (60, .goto 4, 3, (0, 0, 0, 0), []), (63, .iconst 0, 1, (0, 0, 0, 0), [])]
def uc_X11_letters_2 : List ax_EN := [(64, .istore 4, 2, (0, 0, 0, 0), []), (66, .iload_n 3, 1, (0, 0, 0, 0), []), (67, .iload 6, 2, (0, 0, 0, 0), []), (69, .ifCond .ne 7, 3, (0, 0, 0, 0), []), (72, .iconst 0, 1, (0, 0, 0, 0), []), (73, .goto 4, 3, (0, 0, 0, 0), []), (76, .iconst 1, 1, (0, 0, 0, 0), []), (77, .iadd, 1, (0, 0, 0, 0), []), (78, .istore_n 3, 1, (0, 0, 0, 0), []), (79, .iinc 5 1, 3, (0, 0, 0, 0), []), (82, .goto (-74), 3, (0, 0, 0, 0), []), (85, .aload_n 0, 1, (0, 0, 0, 0), []), (86, .getfield 109, 3, (0, 11, 2, 0), [1126]), (89, .iload_n 3, 1, (0, 0, 0, 0), []), (90, .iadd, 1, (0, 0, 0, 0), []), (91, .bipush 80, 2, (0, 0, 0, 0), []), (93, .if_icmp .le 6, 3, (0, 0, 0, 0), [])]
def uc_X11_letters_3 : List ax_EN := [(96, .bipush (-104), 2, (0, 0, 0, 0), []), (98, .ireturn, 1, (0, 0, 0, 0), []), (99, .iconst 0, 1, (0, 0, 0, 0), []), (100, .istore 5, 2, (0, 0, 0, 0), []), (102, .iload 5, 2, (0, 0, 0, 0), []), (104, .iload_n 3, 1, (0, 0, 0, 0), []), (105, .if_icmp .ge 30, 3, (0, 0, 0, 0), []), (108, .aload_n 0, 1, (0, 0, 0, 0), []), (109, .getfield 20, 3, (0, 11, 3, 0), [1127]), (112, .aload_n 0, 1, (0, 0, 0, 0), []), (113, .getfield 109, 3, (0, 11, 2, 0), [1126]), (116, .iload 5, 2, (0, 0, 0, 0), []), (118, .iadd, 1, (0, 0, 0, 0), []), (119, .lload_n 1, 1, (0, 0, 0, 0), []), (120, .bipush 8, 2, (0, 0, 0, 0), []), (122, .iload 5, 2, (0, 0, 0, 0), []), (124, .imul, 1, (0, 0, 0, 0), [])]
def uc_X11_letters_4 : List ax_EN := [(129, .iinc 5 1, 3, (0, 0, 0, 0), []), (132, .goto (-30), 3, (0, 0, 0, 0), []), (135, .aload_n 0, 1, (0, 0, 0, 0), []), (136, .dup, 1, (0, 0, 0, 0), []), (137, .getfield 109, 3, (0, 11, 2, 0), [1126]), (140, .iload_n 3, 1, (0, 0, 0, 0), []), (141, .iadd, 1, (0, 0, 0, 0), []), (142, .putfield 109, 3, (0, 11, 2, 0), [1126]), (145, .aload_n 0, 1, (0, 0, 0, 0), []), (146, .getfield 109, 3, (0, 11, 2, 0), [1126]), (149, .ireturn, 1, (0, 0, 0, 0), [])]
def ut_X11_letters : ax_MI := (RX11, yX11_letters, cX11_letters, 7, (some .int), 1, 0, 0, [uc_X11_letters_0, uc_X11_letters_1, uc_X11_letters_2, uc_X11_letters_3, uc_X11_letters_4])
def mu_prog : List ax_MI := [ut_X10_halvings, ut_X10_product, ut_X10_doublings, ut_X10_linesTaken, ut_X10_times, ut_X10_parts, ut_X11_in, ut_X11_times, ut_X11_parts, ut_X4_codeAt, ut_X4_lettersIn, ut_X4_append, ut_X10_letters, ut_X11_letters]
set_option maxRecDepth 100000 in
theorem vt_X10_halvings_0 : uc_X10_halvings_0.all (ax_chkE mu_prog RX10 "halvings" cX10_halvings) = true := by decide +kernel
set_option maxRecDepth 100000 in
theorem vh_X10_halvings : ax_chkH (ut_X10_halvings, 906, 116) = true := by decide +kernel
theorem vk_X10_halvings : ax_MOk mu_prog ut_X10_halvings := ax_MOk_of vh_X10_halvings (List.forall_mem_cons.mpr ⟨vt_X10_halvings_0, fun _ h => absurd h List.not_mem_nil⟩)
set_option maxRecDepth 100000 in
theorem vt_X10_product_0 : uc_X10_product_0.all (ax_chkE mu_prog RX10 "product" cX10_product) = true := by decide +kernel
set_option maxRecDepth 100000 in
theorem vt_X10_product_1 : uc_X10_product_1.all (ax_chkE mu_prog RX10 "product" cX10_product) = true := by decide +kernel
set_option maxRecDepth 100000 in
theorem vh_X10_product : ax_chkH (ut_X10_product, 903, 116) = true := by decide +kernel
theorem vk_X10_product : ax_MOk mu_prog ut_X10_product := ax_MOk_of vh_X10_product (List.forall_mem_cons.mpr ⟨vt_X10_product_0, List.forall_mem_cons.mpr ⟨vt_X10_product_1, fun _ h => absurd h List.not_mem_nil⟩⟩)
set_option maxRecDepth 100000 in
theorem vt_X10_doublings_0 : uc_X10_doublings_0.all (ax_chkE mu_prog RX10 "doublings" cX10_doublings) = true := by decide +kernel
set_option maxRecDepth 100000 in
theorem vh_X10_doublings : ax_chkH (ut_X10_doublings, 916, 116) = true := by decide +kernel
theorem vk_X10_doublings : ax_MOk mu_prog ut_X10_doublings := ax_MOk_of vh_X10_doublings (List.forall_mem_cons.mpr ⟨vt_X10_doublings_0, fun _ h => absurd h List.not_mem_nil⟩)
set_option maxRecDepth 100000 in
theorem vt_X10_linesTaken_0 : uc_X10_linesTaken_0.all (ax_chkE mu_prog RX10 "linesTaken" cX10_linesTaken) = true := by decide +kernel
set_option maxRecDepth 100000 in
theorem vt_X10_linesTaken_1 : uc_X10_linesTaken_1.all (ax_chkE mu_prog RX10 "linesTaken" cX10_linesTaken) = true := by decide +kernel
set_option maxRecDepth 100000 in
theorem vh_X10_linesTaken : ax_chkH (ut_X10_linesTaken, 913, 116) = true := by decide +kernel
theorem vk_X10_linesTaken : ax_MOk mu_prog ut_X10_linesTaken := ax_MOk_of vh_X10_linesTaken (List.forall_mem_cons.mpr ⟨vt_X10_linesTaken_0, List.forall_mem_cons.mpr ⟨vt_X10_linesTaken_1, fun _ h => absurd h List.not_mem_nil⟩⟩)
set_option maxRecDepth 100000 in
theorem vt_X10_times_0 : uc_X10_times_0.all (ax_chkE mu_prog RX10 "times" cX10_times) = true := by decide +kernel
set_option maxRecDepth 100000 in
theorem vt_X10_times_1 : uc_X10_times_1.all (ax_chkE mu_prog RX10 "times" cX10_times) = true := by decide +kernel
set_option maxRecDepth 100000 in
theorem vt_X10_times_2 : uc_X10_times_2.all (ax_chkE mu_prog RX10 "times" cX10_times) = true := by decide +kernel
set_option maxRecDepth 100000 in
theorem vt_X10_times_3 : uc_X10_times_3.all (ax_chkE mu_prog RX10 "times" cX10_times) = true := by decide +kernel
set_option maxRecDepth 100000 in
theorem vh_X10_times : ax_chkH (ut_X10_times, 900, 116) = true := by decide +kernel
theorem vk_X10_times : ax_MOk mu_prog ut_X10_times := ax_MOk_of vh_X10_times (List.forall_mem_cons.mpr ⟨vt_X10_times_0, List.forall_mem_cons.mpr ⟨vt_X10_times_1, List.forall_mem_cons.mpr ⟨vt_X10_times_2, List.forall_mem_cons.mpr ⟨vt_X10_times_3, fun _ h => absurd h List.not_mem_nil⟩⟩⟩⟩)
set_option maxRecDepth 100000 in
theorem vt_X10_parts_0 : uc_X10_parts_0.all (ax_chkE mu_prog RX10 "parts" cX10_parts) = true := by decide +kernel
set_option maxRecDepth 100000 in
theorem vt_X10_parts_1 : uc_X10_parts_1.all (ax_chkE mu_prog RX10 "parts" cX10_parts) = true := by decide +kernel
set_option maxRecDepth 100000 in
theorem vt_X10_parts_2 : uc_X10_parts_2.all (ax_chkE mu_prog RX10 "parts" cX10_parts) = true := by decide +kernel
set_option maxRecDepth 100000 in
theorem vh_X10_parts : ax_chkH (ut_X10_parts, 910, 116) = true := by decide +kernel
theorem vk_X10_parts : ax_MOk mu_prog ut_X10_parts := ax_MOk_of vh_X10_parts (List.forall_mem_cons.mpr ⟨vt_X10_parts_0, List.forall_mem_cons.mpr ⟨vt_X10_parts_1, List.forall_mem_cons.mpr ⟨vt_X10_parts_2, fun _ h => absurd h List.not_mem_nil⟩⟩⟩)
set_option maxRecDepth 100000 in
theorem vt_X11_in_0 : uc_X11_in_0.all (ax_chkE mu_prog RX11 "in" cX11_in) = true := by decide +kernel
set_option maxRecDepth 100000 in
theorem vh_X11_in : ax_chkH (ut_X11_in, 1292, 127) = true := by decide +kernel
theorem vk_X11_in : ax_MOk mu_prog ut_X11_in := ax_MOk_of vh_X11_in (List.forall_mem_cons.mpr ⟨vt_X11_in_0, fun _ h => absurd h List.not_mem_nil⟩)
set_option maxRecDepth 100000 in
theorem vt_X11_times_0 : uc_X11_times_0.all (ax_chkE mu_prog RX11 "times" cX11_times) = true := by decide +kernel
set_option maxRecDepth 100000 in
theorem vt_X11_times_1 : uc_X11_times_1.all (ax_chkE mu_prog RX11 "times" cX11_times) = true := by decide +kernel
set_option maxRecDepth 100000 in
theorem vt_X11_times_2 : uc_X11_times_2.all (ax_chkE mu_prog RX11 "times" cX11_times) = true := by decide +kernel
set_option maxRecDepth 100000 in
theorem vt_X11_times_3 : uc_X11_times_3.all (ax_chkE mu_prog RX11 "times" cX11_times) = true := by decide +kernel
set_option maxRecDepth 100000 in
theorem vt_X11_times_4 : uc_X11_times_4.all (ax_chkE mu_prog RX11 "times" cX11_times) = true := by decide +kernel
set_option maxRecDepth 100000 in
theorem vh_X11_times : ax_chkH (ut_X11_times, 1467, 127) = true := by decide +kernel
theorem vk_X11_times : ax_MOk mu_prog ut_X11_times := ax_MOk_of vh_X11_times (List.forall_mem_cons.mpr ⟨vt_X11_times_0, List.forall_mem_cons.mpr ⟨vt_X11_times_1, List.forall_mem_cons.mpr ⟨vt_X11_times_2, List.forall_mem_cons.mpr ⟨vt_X11_times_3, List.forall_mem_cons.mpr ⟨vt_X11_times_4, fun _ h => absurd h List.not_mem_nil⟩⟩⟩⟩⟩)
set_option maxRecDepth 100000 in
theorem vt_X11_parts_0 : uc_X11_parts_0.all (ax_chkE mu_prog RX11 "parts" cX11_parts) = true := by decide +kernel
set_option maxRecDepth 100000 in
theorem vt_X11_parts_1 : uc_X11_parts_1.all (ax_chkE mu_prog RX11 "parts" cX11_parts) = true := by decide +kernel
set_option maxRecDepth 100000 in
theorem vt_X11_parts_2 : uc_X11_parts_2.all (ax_chkE mu_prog RX11 "parts" cX11_parts) = true := by decide +kernel
set_option maxRecDepth 100000 in
theorem vt_X11_parts_3 : uc_X11_parts_3.all (ax_chkE mu_prog RX11 "parts" cX11_parts) = true := by decide +kernel
set_option maxRecDepth 100000 in
theorem vt_X11_parts_4 : uc_X11_parts_4.all (ax_chkE mu_prog RX11 "parts" cX11_parts) = true := by decide +kernel
set_option maxRecDepth 100000 in
theorem vh_X11_parts : ax_chkH (ut_X11_parts, 1471, 127) = true := by decide +kernel
theorem vk_X11_parts : ax_MOk mu_prog ut_X11_parts := ax_MOk_of vh_X11_parts (List.forall_mem_cons.mpr ⟨vt_X11_parts_0, List.forall_mem_cons.mpr ⟨vt_X11_parts_1, List.forall_mem_cons.mpr ⟨vt_X11_parts_2, List.forall_mem_cons.mpr ⟨vt_X11_parts_3, List.forall_mem_cons.mpr ⟨vt_X11_parts_4, fun _ h => absurd h List.not_mem_nil⟩⟩⟩⟩⟩)
set_option maxRecDepth 100000 in
theorem vt_X4_codeAt_0 : uc_X4_codeAt_0.all (ax_chkE mu_prog RX4 "codeAt" cX4_codeAt) = true := by decide +kernel
set_option maxRecDepth 100000 in
theorem vh_X4_codeAt : ax_chkH (ut_X4_codeAt, 464, 117) = true := by decide +kernel
theorem vk_X4_codeAt : ax_MOk mu_prog ut_X4_codeAt := ax_MOk_of vh_X4_codeAt (List.forall_mem_cons.mpr ⟨vt_X4_codeAt_0, fun _ h => absurd h List.not_mem_nil⟩)
set_option maxRecDepth 100000 in
theorem vt_X4_lettersIn_0 : uc_X4_lettersIn_0.all (ax_chkE mu_prog RX4 "lettersIn" cX4_lettersIn) = true := by decide +kernel
set_option maxRecDepth 100000 in
theorem vt_X4_lettersIn_1 : uc_X4_lettersIn_1.all (ax_chkE mu_prog RX4 "lettersIn" cX4_lettersIn) = true := by decide +kernel
set_option maxRecDepth 100000 in
theorem vh_X4_lettersIn : ax_chkH (ut_X4_lettersIn, 461, 117) = true := by decide +kernel
theorem vk_X4_lettersIn : ax_MOk mu_prog ut_X4_lettersIn := ax_MOk_of vh_X4_lettersIn (List.forall_mem_cons.mpr ⟨vt_X4_lettersIn_0, List.forall_mem_cons.mpr ⟨vt_X4_lettersIn_1, fun _ h => absurd h List.not_mem_nil⟩⟩)
set_option maxRecDepth 100000 in
theorem vt_X4_append_0 : uc_X4_append_0.all (ax_chkE mu_prog RX4 "append" cX4_append) = true := by decide +kernel
set_option maxRecDepth 100000 in
theorem vt_X4_append_1 : uc_X4_append_1.all (ax_chkE mu_prog RX4 "append" cX4_append) = true := by decide +kernel
set_option maxRecDepth 100000 in
theorem vh_X4_append : ax_chkH (ut_X4_append, 468, 117) = true := by decide +kernel
theorem vk_X4_append : ax_MOk mu_prog ut_X4_append := ax_MOk_of vh_X4_append (List.forall_mem_cons.mpr ⟨vt_X4_append_0, List.forall_mem_cons.mpr ⟨vt_X4_append_1, fun _ h => absurd h List.not_mem_nil⟩⟩)
set_option maxRecDepth 100000 in
theorem vt_X10_letters_0 : uc_X10_letters_0.all (ax_chkE mu_prog RX10 "letters" cX10_letters) = true := by decide +kernel
set_option maxRecDepth 100000 in
theorem vt_X10_letters_1 : uc_X10_letters_1.all (ax_chkE mu_prog RX10 "letters" cX10_letters) = true := by decide +kernel
set_option maxRecDepth 100000 in
theorem vh_X10_letters : ax_chkH (ut_X10_letters, 458, 116) = true := by decide +kernel
theorem vk_X10_letters : ax_MOk mu_prog ut_X10_letters := ax_MOk_of vh_X10_letters (List.forall_mem_cons.mpr ⟨vt_X10_letters_0, List.forall_mem_cons.mpr ⟨vt_X10_letters_1, fun _ h => absurd h List.not_mem_nil⟩⟩)
set_option maxRecDepth 100000 in
theorem vt_X11_letters_0 : uc_X11_letters_0.all (ax_chkE mu_prog RX11 "letters" cX11_letters) = true := by decide +kernel
set_option maxRecDepth 100000 in
theorem vt_X11_letters_1 : uc_X11_letters_1.all (ax_chkE mu_prog RX11 "letters" cX11_letters) = true := by decide +kernel
set_option maxRecDepth 100000 in
theorem vt_X11_letters_2 : uc_X11_letters_2.all (ax_chkE mu_prog RX11 "letters" cX11_letters) = true := by decide +kernel
set_option maxRecDepth 100000 in
theorem vt_X11_letters_3 : uc_X11_letters_3.all (ax_chkE mu_prog RX11 "letters" cX11_letters) = true := by decide +kernel
set_option maxRecDepth 100000 in
theorem vt_X11_letters_4 : uc_X11_letters_4.all (ax_chkE mu_prog RX11 "letters" cX11_letters) = true := by decide +kernel
set_option maxRecDepth 100000 in
theorem vh_X11_letters : ax_chkH (ut_X11_letters, 1272, 127) = true := by decide +kernel
theorem vk_X11_letters : ax_MOk mu_prog ut_X11_letters := ax_MOk_of vh_X11_letters (List.forall_mem_cons.mpr ⟨vt_X11_letters_0, List.forall_mem_cons.mpr ⟨vt_X11_letters_1, List.forall_mem_cons.mpr ⟨vt_X11_letters_2, List.forall_mem_cons.mpr ⟨vt_X11_letters_3, List.forall_mem_cons.mpr ⟨vt_X11_letters_4, fun _ h => absurd h List.not_mem_nil⟩⟩⟩⟩⟩)
theorem dd_X10_halvings_5 : decode cX10_halvings 5 = .ok (.ifCond .le 13, 3) := by decide +kernel
theorem dd_X10_halvings_8 : decode cX10_halvings 8 = .ok (.iinc 1 1, 3) := by decide +kernel
theorem dd_X10_halvings_15 : decode cX10_halvings 15 = .ok (.goto (-11), 3) := by decide +kernel
theorem dd_X10_halvings_19 : decode cX10_halvings 19 = .ok (.ireturn, 1) := by decide +kernel
theorem dd_X10_product_6 : decode cX10_product 6 = .ok (.invokestatic 217, 3) := by decide +kernel
theorem dd_X10_product_9 : decode cX10_product 9 = .ok (.if_icmp .ge 24, 3) := by decide +kernel
theorem dd_X10_product_18 : decode cX10_product 18 = .ok (.if_icmp .ne 9, 3) := by decide +kernel
theorem dd_X10_product_27 : decode cX10_product 27 = .ok (.iinc 3 1, 3) := by decide +kernel
theorem dd_X10_product_30 : decode cX10_product 30 = .ok (.goto (-26), 3) := by decide +kernel
theorem dd_X10_product_34 : decode cX10_product 34 = .ok (.ireturn, 1) := by decide +kernel
theorem dd_X10_doublings_5 : decode cX10_doublings 5 = .ok (.if_icmp .ge 16, 3) := by decide +kernel
theorem dd_X10_doublings_12 : decode cX10_doublings 12 = .ok (.if_icmp .gt 9, 3) := by decide +kernel
theorem dd_X10_doublings_15 : decode cX10_doublings 15 = .ok (.iinc 2 1, 3) := by decide +kernel
theorem dd_X10_doublings_18 : decode cX10_doublings 18 = .ok (.goto (-16), 3) := by decide +kernel
theorem dd_X10_doublings_22 : decode cX10_doublings 22 = .ok (.ireturn, 1) := by decide +kernel
theorem dd_X10_linesTaken_6 : decode cX10_linesTaken 6 = .ok (.invokestatic 224, 3) := by decide +kernel
theorem dd_X10_linesTaken_15 : decode cX10_linesTaken 15 = .ok (.ifCond .lt 31, 3) := by decide +kernel
theorem dd_X10_linesTaken_23 : decode cX10_linesTaken 23 = .ok (.if_icmp .gt 17, 3) := by decide +kernel
theorem dd_X10_linesTaken_40 : decode cX10_linesTaken 40 = .ok (.iinc 4 (-1), 3) := by decide +kernel
theorem dd_X10_linesTaken_43 : decode cX10_linesTaken 43 = .ok (.goto (-30), 3) := by decide +kernel
theorem dd_X10_linesTaken_47 : decode cX10_linesTaken 47 = .ok (.ireturn, 1) := by decide +kernel
theorem dd_X10_times_2 : decode cX10_times 2 = .ok (.if_icmp .lt 22, 3) := by decide +kernel
theorem dd_X10_times_9 : decode cX10_times 9 = .ok (.if_icmp .gt 15, 3) := by decide +kernel
theorem dd_X10_times_14 : decode cX10_times 14 = .ok (.if_icmp .lt 10, 3) := by decide +kernel
theorem dd_X10_times_21 : decode cX10_times 21 = .ok (.if_icmp .le 6, 3) := by decide +kernel
theorem dd_X10_times_26 : decode cX10_times 26 = .ok (.ireturn, 1) := by decide +kernel
theorem dd_X10_times_28 : decode cX10_times 28 = .ok (.ifCond .ne 9, 3) := by decide +kernel
theorem dd_X10_times_33 : decode cX10_times 33 = .ok (.invokestatic 213, 3) := by decide +kernel
theorem dd_X10_times_36 : decode cX10_times 36 = .ok (.ireturn, 1) := by decide +kernel
theorem dd_X10_times_39 : decode cX10_times 39 = .ok (.if_icmp .ne 8, 3) := by decide +kernel
theorem dd_X10_times_43 : decode cX10_times 43 = .ok (.invokestatic 217, 3) := by decide +kernel
theorem dd_X10_times_46 : decode cX10_times 46 = .ok (.ireturn, 1) := by decide +kernel
theorem dd_X10_times_50 : decode cX10_times 50 = .ok (.if_icmp .lt 33, 3) := by decide +kernel
theorem dd_X10_times_56 : decode cX10_times 56 = .ok (.if_icmp .ge 27, 3) := by decide +kernel
theorem dd_X10_times_68 : decode cX10_times 68 = .ok (.invokestatic 217, 3) := by decide +kernel
theorem dd_X10_times_71 : decode cX10_times 71 = .ok (.if_icmp .ge 10, 3) := by decide +kernel
theorem dd_X10_times_78 : decode cX10_times 78 = .ok (.goto 4, 3) := by decide +kernel
theorem dd_X10_times_82 : decode cX10_times 82 = .ok (.ireturn, 1) := by decide +kernel
theorem dd_X10_times_86 : decode cX10_times 86 = .ok (.if_icmp .lt 33, 3) := by decide +kernel
theorem dd_X10_times_92 : decode cX10_times 92 = .ok (.if_icmp .ge 27, 3) := by decide +kernel
theorem dd_X10_times_104 : decode cX10_times 104 = .ok (.invokestatic 217, 3) := by decide +kernel
theorem dd_X10_times_107 : decode cX10_times 107 = .ok (.if_icmp .ge 10, 3) := by decide +kernel
theorem dd_X10_times_114 : decode cX10_times 114 = .ok (.goto 4, 3) := by decide +kernel
theorem dd_X10_times_118 : decode cX10_times 118 = .ok (.ireturn, 1) := by decide +kernel
theorem dd_X10_times_121 : decode cX10_times 121 = .ok (.ireturn, 1) := by decide +kernel
theorem dd_X10_parts_1 : decode cX10_parts 1 = .ok (.ifCond .lt 22, 3) := by decide +kernel
theorem dd_X10_parts_8 : decode cX10_parts 8 = .ok (.if_icmp .gt 15, 3) := by decide +kernel
theorem dd_X10_parts_13 : decode cX10_parts 13 = .ok (.if_icmp .lt 10, 3) := by decide +kernel
theorem dd_X10_parts_20 : decode cX10_parts 20 = .ok (.if_icmp .le 6, 3) := by decide +kernel
theorem dd_X10_parts_25 : decode cX10_parts 25 = .ok (.ireturn, 1) := by decide +kernel
theorem dd_X10_parts_28 : decode cX10_parts 28 = .ok (.invokestatic 221, 3) := by decide +kernel
theorem dd_X10_parts_34 : decode cX10_parts 34 = .ok (.tableswitch 49 0 3 #[30, 33, 40, 46], 30) := by decide +kernel
theorem dd_X10_parts_66 : decode cX10_parts 66 = .ok (.ireturn, 1) := by decide +kernel
theorem dd_X10_parts_73 : decode cX10_parts 73 = .ok (.ireturn, 1) := by decide +kernel
theorem dd_X10_parts_76 : decode cX10_parts 76 = .ok (.invokestatic 224, 3) := by decide +kernel
theorem dd_X10_parts_79 : decode cX10_parts 79 = .ok (.ireturn, 1) := by decide +kernel
theorem dd_X10_parts_82 : decode cX10_parts 82 = .ok (.ireturn, 1) := by decide +kernel
theorem dd_X10_parts_85 : decode cX10_parts 85 = .ok (.ireturn, 1) := by decide +kernel
theorem dd_X11_in_2 : decode cX11_in 2 = .ok (.if_icmp .lt 12, 3) := by decide +kernel
theorem dd_X11_in_7 : decode cX11_in 7 = .ok (.if_icmp .gt 7, 3) := by decide +kernel
theorem dd_X11_in_11 : decode cX11_in 11 = .ok (.goto 4, 3) := by decide +kernel
theorem dd_X11_in_15 : decode cX11_in 15 = .ok (.ireturn, 1) := by decide +kernel
theorem dd_X11_times_5 : decode cX11_times 5 = .ok (.invokestatic 120, 3) := by decide +kernel
theorem dd_X11_times_8 : decode cX11_times 8 = .ok (.ifCond .eq 34, 3) := by decide +kernel
theorem dd_X11_times_16 : decode cX11_times 16 = .ok (.invokestatic 120, 3) := by decide +kernel
theorem dd_X11_times_19 : decode cX11_times 19 = .ok (.ifCond .eq 23, 3) := by decide +kernel
theorem dd_X11_times_25 : decode cX11_times 25 = .ok (.invokestatic 120, 3) := by decide +kernel
theorem dd_X11_times_28 : decode cX11_times 28 = .ok (.ifCond .ne 17, 3) := by decide +kernel
theorem dd_X11_times_36 : decode cX11_times 36 = .ok (.invokestatic 120, 3) := by decide +kernel
theorem dd_X11_times_39 : decode cX11_times 39 = .ok (.ifCond .ne 6, 3) := by decide +kernel
theorem dd_X11_times_44 : decode cX11_times 44 = .ok (.ireturn, 1) := by decide +kernel
theorem dd_X11_times_62 : decode cX11_times 62 = .ok (.ifCond .le 72, 3) := by decide +kernel
theorem dd_X11_times_71 : decode cX11_times 71 = .ok (.if_icmp .ne 8, 3) := by decide +kernel
theorem dd_X11_times_76 : decode cX11_times 76 = .ok (.goto 19, 3) := by decide +kernel
theorem dd_X11_times_85 : decode cX11_times 85 = .ok (.if_icmp .ne 8, 3) := by decide +kernel
theorem dd_X11_times_90 : decode cX11_times 90 = .ok (.goto 5, 3) := by decide +kernel
theorem dd_X11_times_104 : decode cX11_times 104 = .ok (.if_icmp .ne 8, 3) := by decide +kernel
theorem dd_X11_times_109 : decode cX11_times 109 = .ok (.goto 4, 3) := by decide +kernel
theorem dd_X11_times_116 : decode cX11_times 116 = .ok (.iinc 5 1, 3) := by decide +kernel
theorem dd_X11_times_131 : decode cX11_times 131 = .ok (.goto (-71), 3) := by decide +kernel
theorem dd_X11_times_135 : decode cX11_times 135 = .ok (.ifCond .ne 8, 3) := by decide +kernel
theorem dd_X11_times_140 : decode cX11_times 140 = .ok (.goto 15, 3) := by decide +kernel
theorem dd_X11_times_145 : decode cX11_times 145 = .ok (.if_icmp .ne 8, 3) := by decide +kernel
theorem dd_X11_times_150 : decode cX11_times 150 = .ok (.goto 5, 3) := by decide +kernel
theorem dd_X11_times_155 : decode cX11_times 155 = .ok (.ireturn, 1) := by decide +kernel
theorem dd_X11_parts_5 : decode cX11_parts 5 = .ok (.invokestatic 120, 3) := by decide +kernel
theorem dd_X11_parts_8 : decode cX11_parts 8 = .ok (.ifCond .eq 23, 3) := by decide +kernel
theorem dd_X11_parts_16 : decode cX11_parts 16 = .ok (.invokestatic 120, 3) := by decide +kernel
theorem dd_X11_parts_19 : decode cX11_parts 19 = .ok (.ifCond .eq 12, 3) := by decide +kernel
theorem dd_X11_parts_25 : decode cX11_parts 25 = .ok (.invokestatic 120, 3) := by decide +kernel
theorem dd_X11_parts_28 : decode cX11_parts 28 = .ok (.ifCond .ne 6, 3) := by decide +kernel
theorem dd_X11_parts_33 : decode cX11_parts 33 = .ok (.ireturn, 1) := by decide +kernel
theorem dd_X11_parts_43 : decode cX11_parts 43 = .ok (.if_icmp .gt 15, 3) := by decide +kernel
theorem dd_X11_parts_46 : decode cX11_parts 46 = .ok (.iinc 4 1, 3) := by decide +kernel
theorem dd_X11_parts_55 : decode cX11_parts 55 = .ok (.goto (-15), 3) := by decide +kernel
theorem dd_X11_parts_72 : decode cX11_parts 72 = .ok (.ifCond .lt 36, 3) := by decide +kernel
theorem dd_X11_parts_81 : decode cX11_parts 81 = .ok (.if_icmp .gt 21, 3) := by decide +kernel
theorem dd_X11_parts_102 : decode cX11_parts 102 = .ok (.iinc 7 (-1), 3) := by decide +kernel
theorem dd_X11_parts_105 : decode cX11_parts 105 = .ok (.goto (-35), 3) := by decide +kernel
theorem dd_X11_parts_109 : decode cX11_parts 109 = .ok (.ifCond .ne 8, 3) := by decide +kernel
theorem dd_X11_parts_114 : decode cX11_parts 114 = .ok (.goto 25, 3) := by decide +kernel
theorem dd_X11_parts_119 : decode cX11_parts 119 = .ok (.if_icmp .ne 8, 3) := by decide +kernel
theorem dd_X11_parts_124 : decode cX11_parts 124 = .ok (.goto 15, 3) := by decide +kernel
theorem dd_X11_parts_129 : decode cX11_parts 129 = .ok (.if_icmp .ne 8, 3) := by decide +kernel
theorem dd_X11_parts_134 : decode cX11_parts 134 = .ok (.goto 5, 3) := by decide +kernel
theorem dd_X11_parts_139 : decode cX11_parts 139 = .ok (.ireturn, 1) := by decide +kernel
theorem dd_X4_codeAt_5 : decode cX4_codeAt 5 = .ok (.lushr, 1) := by decide +kernel
theorem dd_X4_codeAt_6 : decode cX4_codeAt 6 = .ok (.l2i, 1) := by decide +kernel
theorem dd_X4_codeAt_11 : decode cX4_codeAt 11 = .ok (.ireturn, 1) := by decide +kernel
theorem dd_X4_lettersIn_7 : decode cX4_lettersIn 7 = .ok (.if_icmp .ge 43, 3) := by decide +kernel
theorem dd_X4_lettersIn_12 : decode cX4_lettersIn 12 = .ok (.invokestatic 19, 3) := by decide +kernel
theorem dd_X4_lettersIn_21 : decode cX4_lettersIn 21 = .ok (.if_icmp .gt 13, 3) := by decide +kernel
theorem dd_X4_lettersIn_26 : decode cX4_lettersIn 26 = .ok (.ifCond .eq 10, 3) := by decide +kernel
theorem dd_X4_lettersIn_31 : decode cX4_lettersIn 31 = .ok (.if_icmp .ge 5, 3) := by decide +kernel
theorem dd_X4_lettersIn_35 : decode cX4_lettersIn 35 = .ok (.ireturn, 1) := by decide +kernel
theorem dd_X4_lettersIn_38 : decode cX4_lettersIn 38 = .ok (.ifCond .eq 6, 3) := by decide +kernel
theorem dd_X4_lettersIn_41 : decode cX4_lettersIn 41 = .ok (.iinc 2 1, 3) := by decide +kernel
theorem dd_X4_lettersIn_44 : decode cX4_lettersIn 44 = .ok (.iinc 3 1, 3) := by decide +kernel
theorem dd_X4_lettersIn_47 : decode cX4_lettersIn 47 = .ok (.goto (-43), 3) := by decide +kernel
theorem dd_X4_lettersIn_51 : decode cX4_lettersIn 51 = .ok (.ireturn, 1) := by decide +kernel
theorem dd_X4_append_6 : decode cX4_append 6 = .ok (.if_icmp .ge 43, 3) := by decide +kernel
theorem dd_X4_append_15 : decode cX4_append 15 = .ok (.if_icmp .ge 34, 3) := by decide +kernel
theorem dd_X4_append_29 : decode cX4_append 29 = .ok (.invokestatic 19, 3) := by decide +kernel
theorem dd_X4_append_43 : decode cX4_append 43 = .ok (.iinc 4 1, 3) := by decide +kernel
theorem dd_X4_append_46 : decode cX4_append 46 = .ok (.goto (-43), 3) := by decide +kernel
theorem dd_X10_letters_1 : decode cX10_letters 1 = .ok (.invokestatic 75, 3) := by decide +kernel
theorem dd_X10_letters_6 : decode cX10_letters 6 = .ok (.ifCond .ge 6, 3) := by decide +kernel
theorem dd_X10_letters_11 : decode cX10_letters 11 = .ok (.ireturn, 1) := by decide +kernel
theorem dd_X10_letters_23 : decode cX10_letters 23 = .ok (.if_icmp .le 6, 3) := by decide +kernel
theorem dd_X10_letters_28 : decode cX10_letters 28 = .ok (.ireturn, 1) := by decide +kernel
theorem dd_X10_letters_35 : decode cX10_letters 35 = .ok (.invokevirtual 82, 3) := by decide +kernel
theorem dd_X10_letters_45 : decode cX10_letters 45 = .ok (.ireturn, 1) := by decide +kernel
theorem dd_X11_letters_12 : decode cX11_letters 12 = .ok (.if_icmp .ge 73, 3) := by decide +kernel
theorem dd_X11_letters_21 : decode cX11_letters 21 = .ok (.lshr, 1) := by decide +kernel
theorem dd_X11_letters_25 : decode cX11_letters 25 = .ok (.land, 1) := by decide +kernel
theorem dd_X11_letters_26 : decode cX11_letters 26 = .ok (.l2i, 1) := by decide +kernel
theorem dd_X11_letters_33 : decode cX11_letters 33 = .ok (.if_icmp .gt 13, 3) := by decide +kernel
theorem dd_X11_letters_38 : decode cX11_letters 38 = .ok (.ifCond .eq 11, 3) := by decide +kernel
theorem dd_X11_letters_43 : decode cX11_letters 43 = .ok (.ifCond .eq 6, 3) := by decide +kernel
theorem dd_X11_letters_48 : decode cX11_letters 48 = .ok (.ireturn, 1) := by decide +kernel
theorem dd_X11_letters_51 : decode cX11_letters 51 = .ok (.ifCond .ne 8, 3) := by decide +kernel
theorem dd_X11_letters_56 : decode cX11_letters 56 = .ok (.ifCond .ne 7, 3) := by decide +kernel
theorem dd_X11_letters_60 : decode cX11_letters 60 = .ok (.goto 4, 3) := by decide +kernel
theorem dd_X11_letters_69 : decode cX11_letters 69 = .ok (.ifCond .ne 7, 3) := by decide +kernel
theorem dd_X11_letters_73 : decode cX11_letters 73 = .ok (.goto 4, 3) := by decide +kernel
theorem dd_X11_letters_79 : decode cX11_letters 79 = .ok (.iinc 5 1, 3) := by decide +kernel
theorem dd_X11_letters_82 : decode cX11_letters 82 = .ok (.goto (-74), 3) := by decide +kernel
theorem dd_X11_letters_93 : decode cX11_letters 93 = .ok (.if_icmp .le 6, 3) := by decide +kernel
theorem dd_X11_letters_98 : decode cX11_letters 98 = .ok (.ireturn, 1) := by decide +kernel
theorem dd_X11_letters_105 : decode cX11_letters 105 = .ok (.if_icmp .ge 30, 3) := by decide +kernel
theorem dd_X11_letters_125 : decode cX11_letters 125 = .ok (.lshr, 1) := by decide +kernel
theorem dd_X11_letters_126 : decode cX11_letters 126 = .ok (.l2i, 1) := by decide +kernel
theorem dd_X11_letters_127 : decode cX11_letters 127 = .ok (.i2b, 1) := by decide +kernel
theorem dd_X11_letters_128 : decode cX11_letters 128 = .ok (.bastore, 1) := by decide +kernel
theorem dd_X11_letters_129 : decode cX11_letters 129 = .ok (.iinc 5 1, 3) := by decide +kernel
theorem dd_X11_letters_132 : decode cX11_letters 132 = .ok (.goto (-30), 3) := by decide +kernel
theorem dd_X11_letters_149 : decode cX11_letters 149 = .ok (.ireturn, 1) := by decide +kernel
